-- ===== PART A: goes FIRST, ahead of the names: the tables' words, and 'selects' of the private methods out of them =====
/-- a private method of a class that the tables say can be made, by its rows of tables_1 -/
def lw_okq (q : MethodName × Nat) : Prop := (q.1.cls ≠ "java/lang/invoke/MethodHandle" ∧ q.1.cls ≠ "java/lang/invoke/VarHandle") ∧ Cond.instantiable q.1.cls q.2 ∈ tables_1 ∧ Cond.privateMethod q.1 ∈ tables_1 ∧ Cond.instanceMethod q.1 ∈ tables_1
theorem lw_p0 : lw_okq (⟨"SameKeeper", "refuse", "(I)I"⟩, 18) := ⟨⟨by decide +kernel, by decide +kernel⟩, List.mem_of_getElem? (i := 23) (by decide +kernel), List.mem_of_getElem? (i := 423) (by decide +kernel), List.mem_of_getElem? (i := 424) (by decide +kernel)⟩
theorem lw_p1 : lw_okq (⟨"SameKeeper", "refuseIt", "(I)Z"⟩, 18) := ⟨⟨by decide +kernel, by decide +kernel⟩, List.mem_of_getElem? (i := 23) (by decide +kernel), List.mem_of_getElem? (i := 439) (by decide +kernel), List.mem_of_getElem? (i := 440) (by decide +kernel)⟩
theorem lw_p2 : lw_okq (⟨"SameKeeper$Reader", "readWord", "()V"⟩, 8) := ⟨⟨by decide +kernel, by decide +kernel⟩, List.mem_of_getElem? (i := 51) (by decide +kernel), List.mem_of_getElem? (i := 470) (by decide +kernel), List.mem_of_getElem? (i := 471) (by decide +kernel)⟩
theorem lw_p3 : lw_okq (⟨"SameKeeper$Reader", "readNumber", "()V"⟩, 8) := ⟨⟨by decide +kernel, by decide +kernel⟩, List.mem_of_getElem? (i := 51) (by decide +kernel), List.mem_of_getElem? (i := 523) (by decide +kernel), List.mem_of_getElem? (i := 524) (by decide +kernel)⟩
theorem lw_p4 : lw_okq (⟨"SameKeeper$LockText", "readOpening", "(LSameKeeper$Lock;)V"⟩, 3) := ⟨⟨by decide +kernel, by decide +kernel⟩, List.mem_of_getElem? (i := 89) (by decide +kernel), List.mem_of_getElem? (i := 527) (by decide +kernel), List.mem_of_getElem? (i := 528) (by decide +kernel)⟩
theorem lw_p5 : lw_okq (⟨"SameKeeper$LockText", "readSumOf", "(LSameKeeper$Lock;ILSameKeeper$Sums;)V"⟩, 3) := ⟨⟨by decide +kernel, by decide +kernel⟩, List.mem_of_getElem? (i := 89) (by decide +kernel), List.mem_of_getElem? (i := 547) (by decide +kernel), List.mem_of_getElem? (i := 548) (by decide +kernel)⟩
theorem lw_p6 : lw_okq (⟨"SameKeeper$Sums", "readSum", "(LSameKeeper$Code;)V"⟩, 2) := ⟨⟨by decide +kernel, by decide +kernel⟩, List.mem_of_getElem? (i := 95) (by decide +kernel), List.mem_of_getElem? (i := 565) (by decide +kernel), List.mem_of_getElem? (i := 566) (by decide +kernel)⟩
theorem lw_p7 : lw_okq (⟨"SameKeeper$Sums", "readProduct", "(LSameKeeper$Code;)V"⟩, 2) := ⟨⟨by decide +kernel, by decide +kernel⟩, List.mem_of_getElem? (i := 95) (by decide +kernel), List.mem_of_getElem? (i := 569) (by decide +kernel), List.mem_of_getElem? (i := 570) (by decide +kernel)⟩
theorem lw_p8 : lw_okq (⟨"SameKeeper$Sums", "readPart", "(LSameKeeper$Code;)V"⟩, 2) := ⟨⟨by decide +kernel, by decide +kernel⟩, List.mem_of_getElem? (i := 95) (by decide +kernel), List.mem_of_getElem? (i := 573) (by decide +kernel), List.mem_of_getElem? (i := 574) (by decide +kernel)⟩
theorem lw_p9 : lw_okq (⟨"SameKeeper$Sums", "readPair", "(LSameKeeper$Code;I)V"⟩, 2) := ⟨⟨by decide +kernel, by decide +kernel⟩, List.mem_of_getElem? (i := 95) (by decide +kernel), List.mem_of_getElem? (i := 592) (by decide +kernel), List.mem_of_getElem? (i := 593) (by decide +kernel)⟩
theorem lw_p10 : lw_okq (⟨"SameKeeper$Sums", "nameInLock", "(I)I"⟩, 2) := ⟨⟨by decide +kernel, by decide +kernel⟩, List.mem_of_getElem? (i := 95) (by decide +kernel), List.mem_of_getElem? (i := 599) (by decide +kernel), List.mem_of_getElem? (i := 600) (by decide +kernel)⟩
theorem lw_p11 : lw_okq (⟨"SameKeeper$LockText", "readNumbers", "(LSameKeeper$Lock;)V"⟩, 3) := ⟨⟨by decide +kernel, by decide +kernel⟩, List.mem_of_getElem? (i := 89) (by decide +kernel), List.mem_of_getElem? (i := 608) (by decide +kernel), List.mem_of_getElem? (i := 609) (by decide +kernel)⟩
theorem lw_p12 : lw_okq (⟨"SameKeeper$LockText", "readAmount", "(LSameKeeper$Lock;[I)V"⟩, 3) := ⟨⟨by decide +kernel, by decide +kernel⟩, List.mem_of_getElem? (i := 89) (by decide +kernel), List.mem_of_getElem? (i := 612) (by decide +kernel), List.mem_of_getElem? (i := 613) (by decide +kernel)⟩
theorem lw_p13 : lw_okq (⟨"SameKeeper$LockText", "readMute", "(LSameKeeper$Lock;)V"⟩, 3) := ⟨⟨by decide +kernel, by decide +kernel⟩, List.mem_of_getElem? (i := 89) (by decide +kernel), List.mem_of_getElem? (i := 616) (by decide +kernel), List.mem_of_getElem? (i := 617) (by decide +kernel)⟩
theorem lw_p14 : lw_okq (⟨"SameKeeper", "isDay", "(I)Z"⟩, 18) := ⟨⟨by decide +kernel, by decide +kernel⟩, List.mem_of_getElem? (i := 23) (by decide +kernel), List.mem_of_getElem? (i := 671) (by decide +kernel), List.mem_of_getElem? (i := 672) (by decide +kernel)⟩
theorem lw_p15 : lw_okq (⟨"SameKeeper$Table", "fillWords", "(LSameKeeper$Lock;I)V"⟩, 6) := ⟨⟨by decide +kernel, by decide +kernel⟩, List.mem_of_getElem? (i := 298) (by decide +kernel), List.mem_of_getElem? (i := 697) (by decide +kernel), List.mem_of_getElem? (i := 698) (by decide +kernel)⟩
def lw_privs_1 : List (MethodName × Nat) := [(⟨"SameKeeper", "refuse", "(I)I"⟩, 18), (⟨"SameKeeper", "refuseIt", "(I)Z"⟩, 18), (⟨"SameKeeper$Reader", "readWord", "()V"⟩, 8), (⟨"SameKeeper$Reader", "readNumber", "()V"⟩, 8), (⟨"SameKeeper$LockText", "readOpening", "(LSameKeeper$Lock;)V"⟩, 3), (⟨"SameKeeper$LockText", "readSumOf", "(LSameKeeper$Lock;ILSameKeeper$Sums;)V"⟩, 3), (⟨"SameKeeper$Sums", "readSum", "(LSameKeeper$Code;)V"⟩, 2), (⟨"SameKeeper$Sums", "readProduct", "(LSameKeeper$Code;)V"⟩, 2), (⟨"SameKeeper$Sums", "readPart", "(LSameKeeper$Code;)V"⟩, 2), (⟨"SameKeeper$Sums", "readPair", "(LSameKeeper$Code;I)V"⟩, 2), (⟨"SameKeeper$Sums", "nameInLock", "(I)I"⟩, 2), (⟨"SameKeeper$LockText", "readNumbers", "(LSameKeeper$Lock;)V"⟩, 3), (⟨"SameKeeper$LockText", "readAmount", "(LSameKeeper$Lock;[I)V"⟩, 3), (⟨"SameKeeper$LockText", "readMute", "(LSameKeeper$Lock;)V"⟩, 3), (⟨"SameKeeper", "isDay", "(I)Z"⟩, 18), (⟨"SameKeeper$Table", "fillWords", "(LSameKeeper$Lock;I)V"⟩, 6)]
theorem lw_r1 : ∀ q ∈ lw_privs_1, lw_okq q := List.forall_mem_cons.mpr ⟨lw_p0, List.forall_mem_cons.mpr ⟨lw_p1, List.forall_mem_cons.mpr ⟨lw_p2, List.forall_mem_cons.mpr ⟨lw_p3, List.forall_mem_cons.mpr ⟨lw_p4, List.forall_mem_cons.mpr ⟨lw_p5, List.forall_mem_cons.mpr ⟨lw_p6, List.forall_mem_cons.mpr ⟨lw_p7, List.forall_mem_cons.mpr ⟨lw_p8, List.forall_mem_cons.mpr ⟨lw_p9, List.forall_mem_cons.mpr ⟨lw_p10, List.forall_mem_cons.mpr ⟨lw_p11, List.forall_mem_cons.mpr ⟨lw_p12, List.forall_mem_cons.mpr ⟨lw_p13, List.forall_mem_cons.mpr ⟨lw_p14, List.forall_mem_cons.mpr ⟨lw_p15, fun _ h => absurd h List.not_mem_nil⟩⟩⟩⟩⟩⟩⟩⟩⟩⟩⟩⟩⟩⟩⟩⟩
theorem lw_p16 : lw_okq (⟨"SameKeeper$Code", "ofOne", "(IJ)J"⟩, 6) := ⟨⟨by decide +kernel, by decide +kernel⟩, List.mem_of_getElem? (i := 124) (by decide +kernel), List.mem_of_getElem? (i := 723) (by decide +kernel), List.mem_of_getElem? (i := 724) (by decide +kernel)⟩
theorem lw_p17 : lw_okq (⟨"SameKeeper$Table", "fillDeeds", "(LSameKeeper$Lock;I)V"⟩, 6) := ⟨⟨by decide +kernel, by decide +kernel⟩, List.mem_of_getElem? (i := 298) (by decide +kernel), List.mem_of_getElem? (i := 734) (by decide +kernel), List.mem_of_getElem? (i := 735) (by decide +kernel)⟩
theorem lw_p18 : lw_okq (⟨"SameKeeper", "isLocked", "()Z"⟩, 18) := ⟨⟨by decide +kernel, by decide +kernel⟩, List.mem_of_getElem? (i := 23) (by decide +kernel), List.mem_of_getElem? (i := 760) (by decide +kernel), List.mem_of_getElem? (i := 761) (by decide +kernel)⟩
theorem lw_p19 : lw_okq (⟨"SameKeeper", "lookAt", "(LSameKeeper$State;)Z"⟩, 18) := ⟨⟨by decide +kernel, by decide +kernel⟩, List.mem_of_getElem? (i := 23) (by decide +kernel), List.mem_of_getElem? (i := 764) (by decide +kernel), List.mem_of_getElem? (i := 765) (by decide +kernel)⟩
theorem lw_p20 : lw_okq (⟨"SameKeeper$Graph", "next", "(II)I"⟩, 9) := ⟨⟨by decide +kernel, by decide +kernel⟩, List.mem_of_getElem? (i := 330) (by decide +kernel), List.mem_of_getElem? (i := 778) (by decide +kernel), List.mem_of_getElem? (i := 779) (by decide +kernel)⟩
theorem lw_p21 : lw_okq (⟨"SameKeeper", "takeWeek", "(I[I)Z"⟩, 18) := ⟨⟨by decide +kernel, by decide +kernel⟩, List.mem_of_getElem? (i := 23) (by decide +kernel), List.mem_of_getElem? (i := 790) (by decide +kernel), List.mem_of_getElem? (i := 791) (by decide +kernel)⟩
theorem lw_p22 : lw_okq (⟨"SameKeeper", "fewest", "(III)I"⟩, 18) := ⟨⟨by decide +kernel, by decide +kernel⟩, List.mem_of_getElem? (i := 23) (by decide +kernel), List.mem_of_getElem? (i := 817) (by decide +kernel), List.mem_of_getElem? (i := 818) (by decide +kernel)⟩
theorem lw_p23 : lw_okq (⟨"SameKeeper", "serves", "(IIII)Z"⟩, 18) := ⟨⟨by decide +kernel, by decide +kernel⟩, List.mem_of_getElem? (i := 23) (by decide +kernel), List.mem_of_getElem? (i := 821) (by decide +kernel), List.mem_of_getElem? (i := 822) (by decide +kernel)⟩
theorem lw_p24 : lw_okq (⟨"SameKeeper", "isAtRest", "(I)Z"⟩, 18) := ⟨⟨by decide +kernel, by decide +kernel⟩, List.mem_of_getElem? (i := 23) (by decide +kernel), List.mem_of_getElem? (i := 829) (by decide +kernel), List.mem_of_getElem? (i := 830) (by decide +kernel)⟩
theorem lw_p25 : lw_okq (⟨"SameKeeper", "stepAhead", "()Z"⟩, 18) := ⟨⟨by decide +kernel, by decide +kernel⟩, List.mem_of_getElem? (i := 23) (by decide +kernel), List.mem_of_getElem? (i := 857) (by decide +kernel), List.mem_of_getElem? (i := 858) (by decide +kernel)⟩
theorem lw_p26 : lw_okq (⟨"SameKeeper$Graph", "gainBy", "(II)J"⟩, 9) := ⟨⟨by decide +kernel, by decide +kernel⟩, List.mem_of_getElem? (i := 330) (by decide +kernel), List.mem_of_getElem? (i := 882) (by decide +kernel), List.mem_of_getElem? (i := 883) (by decide +kernel)⟩
theorem lw_p27 : lw_okq (⟨"SameKeeper", "isWordOf", "(II)Z"⟩, 18) := ⟨⟨by decide +kernel, by decide +kernel⟩, List.mem_of_getElem? (i := 23) (by decide +kernel), List.mem_of_getElem? (i := 907) (by decide +kernel), List.mem_of_getElem? (i := 908) (by decide +kernel)⟩
theorem lw_p28 : lw_okq (⟨"SameKeeper", "lookByWord", "(II)Z"⟩, 18) := ⟨⟨by decide +kernel, by decide +kernel⟩, List.mem_of_getElem? (i := 23) (by decide +kernel), List.mem_of_getElem? (i := 911) (by decide +kernel), List.mem_of_getElem? (i := 912) (by decide +kernel)⟩
theorem lw_p29 : lw_okq (⟨"SameKeeper", "tellsRows", "()Z"⟩, 18) := ⟨⟨by decide +kernel, by decide +kernel⟩, List.mem_of_getElem? (i := 23) (by decide +kernel), List.mem_of_getElem? (i := 931) (by decide +kernel), List.mem_of_getElem? (i := 932) (by decide +kernel)⟩
theorem lw_p30 : lw_okq (⟨"SameKeeper", "lookByHeard", "()Z"⟩, 18) := ⟨⟨by decide +kernel, by decide +kernel⟩, List.mem_of_getElem? (i := 23) (by decide +kernel), List.mem_of_getElem? (i := 943) (by decide +kernel), List.mem_of_getElem? (i := 944) (by decide +kernel)⟩
theorem lw_p31 : lw_okq (⟨"SameKeeper", "pass", "(J)V"⟩, 18) := ⟨⟨by decide +kernel, by decide +kernel⟩, List.mem_of_getElem? (i := 23) (by decide +kernel), List.mem_of_getElem? (i := 981) (by decide +kernel), List.mem_of_getElem? (i := 982) (by decide +kernel)⟩
def lw_privs_2 : List (MethodName × Nat) := [(⟨"SameKeeper$Code", "ofOne", "(IJ)J"⟩, 6), (⟨"SameKeeper$Table", "fillDeeds", "(LSameKeeper$Lock;I)V"⟩, 6), (⟨"SameKeeper", "isLocked", "()Z"⟩, 18), (⟨"SameKeeper", "lookAt", "(LSameKeeper$State;)Z"⟩, 18), (⟨"SameKeeper$Graph", "next", "(II)I"⟩, 9), (⟨"SameKeeper", "takeWeek", "(I[I)Z"⟩, 18), (⟨"SameKeeper", "fewest", "(III)I"⟩, 18), (⟨"SameKeeper", "serves", "(IIII)Z"⟩, 18), (⟨"SameKeeper", "isAtRest", "(I)Z"⟩, 18), (⟨"SameKeeper", "stepAhead", "()Z"⟩, 18), (⟨"SameKeeper$Graph", "gainBy", "(II)J"⟩, 9), (⟨"SameKeeper", "isWordOf", "(II)Z"⟩, 18), (⟨"SameKeeper", "lookByWord", "(II)Z"⟩, 18), (⟨"SameKeeper", "tellsRows", "()Z"⟩, 18), (⟨"SameKeeper", "lookByHeard", "()Z"⟩, 18), (⟨"SameKeeper", "pass", "(J)V"⟩, 18)]
theorem lw_r2 : ∀ q ∈ lw_privs_2, lw_okq q := List.forall_mem_cons.mpr ⟨lw_p16, List.forall_mem_cons.mpr ⟨lw_p17, List.forall_mem_cons.mpr ⟨lw_p18, List.forall_mem_cons.mpr ⟨lw_p19, List.forall_mem_cons.mpr ⟨lw_p20, List.forall_mem_cons.mpr ⟨lw_p21, List.forall_mem_cons.mpr ⟨lw_p22, List.forall_mem_cons.mpr ⟨lw_p23, List.forall_mem_cons.mpr ⟨lw_p24, List.forall_mem_cons.mpr ⟨lw_p25, List.forall_mem_cons.mpr ⟨lw_p26, List.forall_mem_cons.mpr ⟨lw_p27, List.forall_mem_cons.mpr ⟨lw_p28, List.forall_mem_cons.mpr ⟨lw_p29, List.forall_mem_cons.mpr ⟨lw_p30, List.forall_mem_cons.mpr ⟨lw_p31, fun _ h => absurd h List.not_mem_nil⟩⟩⟩⟩⟩⟩⟩⟩⟩⟩⟩⟩⟩⟩⟩⟩
theorem lw_p32 : lw_okq (⟨"SameKeeper", "passByChance", "()Z"⟩, 18) := ⟨⟨by decide +kernel, by decide +kernel⟩, List.mem_of_getElem? (i := 23) (by decide +kernel), List.mem_of_getElem? (i := 993) (by decide +kernel), List.mem_of_getElem? (i := 994) (by decide +kernel)⟩
theorem lw_p33 : lw_okq (⟨"SameKeeper", "draw", "(J)J"⟩, 18) := ⟨⟨by decide +kernel, by decide +kernel⟩, List.mem_of_getElem? (i := 23) (by decide +kernel), List.mem_of_getElem? (i := 998) (by decide +kernel), List.mem_of_getElem? (i := 999) (by decide +kernel)⟩
theorem lw_p34 : lw_okq (⟨"SameKeeper$Question", "readTest", "()V"⟩, 4) := ⟨⟨by decide +kernel, by decide +kernel⟩, List.mem_of_getElem? (i := 118) (by decide +kernel), List.mem_of_getElem? (i := 1031) (by decide +kernel), List.mem_of_getElem? (i := 1032) (by decide +kernel)⟩
theorem lw_p35 : lw_okq (⟨"SameKeeper$Question", "readBoth", "()V"⟩, 4) := ⟨⟨by decide +kernel, by decide +kernel⟩, List.mem_of_getElem? (i := 118) (by decide +kernel), List.mem_of_getElem? (i := 1035) (by decide +kernel), List.mem_of_getElem? (i := 1036) (by decide +kernel)⟩
theorem lw_p36 : lw_okq (⟨"SameKeeper$Question", "readFact", "()V"⟩, 4) := ⟨⟨by decide +kernel, by decide +kernel⟩, List.mem_of_getElem? (i := 118) (by decide +kernel), List.mem_of_getElem? (i := 1039) (by decide +kernel), List.mem_of_getElem? (i := 1040) (by decide +kernel)⟩
theorem lw_p37 : lw_okq (⟨"SameKeeper$Question", "isOfDays", "()Z"⟩, 4) := ⟨⟨by decide +kernel, by decide +kernel⟩, List.mem_of_getElem? (i := 118) (by decide +kernel), List.mem_of_getElem? (i := 1061) (by decide +kernel), List.mem_of_getElem? (i := 1062) (by decide +kernel)⟩
theorem lw_p38 : lw_okq (⟨"SameKeeper$Question", "nameDay", "(LSameKeeper$State;LSameKeeper$Graph;II)V"⟩, 4) := ⟨⟨by decide +kernel, by decide +kernel⟩, List.mem_of_getElem? (i := 118) (by decide +kernel), List.mem_of_getElem? (i := 1066) (by decide +kernel), List.mem_of_getElem? (i := 1067) (by decide +kernel)⟩
theorem lw_p39 : lw_okq (⟨"SameKeeper$Question", "joined", "(JJI)J"⟩, 4) := ⟨⟨by decide +kernel, by decide +kernel⟩, List.mem_of_getElem? (i := 118) (by decide +kernel), List.mem_of_getElem? (i := 1078) (by decide +kernel), List.mem_of_getElem? (i := 1079) (by decide +kernel)⟩
theorem lw_p40 : lw_okq (⟨"SameKeeper", "tellsImage", "()Z"⟩, 18) := ⟨⟨by decide +kernel, by decide +kernel⟩, List.mem_of_getElem? (i := 23) (by decide +kernel), List.mem_of_getElem? (i := 1102) (by decide +kernel), List.mem_of_getElem? (i := 1103) (by decide +kernel)⟩
theorem lw_p41 : lw_okq (⟨"SameKeeperModel", "lockTold", "()V"⟩, 92) := ⟨⟨by decide +kernel, by decide +kernel⟩, List.mem_of_getElem? (i := 1110) (by decide +kernel), List.mem_of_getElem? (i := 1407) (by decide +kernel), List.mem_of_getElem? (i := 1408) (by decide +kernel)⟩
theorem lw_p42 : lw_okq (⟨"SameKeeperModel", "asks", "([C)V"⟩, 92) := ⟨⟨by decide +kernel, by decide +kernel⟩, List.mem_of_getElem? (i := 1110) (by decide +kernel), List.mem_of_getElem? (i := 1411) (by decide +kernel), List.mem_of_getElem? (i := 1412) (by decide +kernel)⟩
theorem lw_p43 : lw_okq (⟨"SameKeeperModel", "takes", "([C)Z"⟩, 92) := ⟨⟨by decide +kernel, by decide +kernel⟩, List.mem_of_getElem? (i := 1110) (by decide +kernel), List.mem_of_getElem? (i := 1415) (by decide +kernel), List.mem_of_getElem? (i := 1416) (by decide +kernel)⟩
theorem lw_p44 : lw_okq (⟨"SameKeeperModel", "isHere", "([C)Z"⟩, 92) := ⟨⟨by decide +kernel, by decide +kernel⟩, List.mem_of_getElem? (i := 1110) (by decide +kernel), List.mem_of_getElem? (i := 1419) (by decide +kernel), List.mem_of_getElem? (i := 1420) (by decide +kernel)⟩
theorem lw_p45 : lw_okq (⟨"SameKeeperModel", "look", "()I"⟩, 92) := ⟨⟨by decide +kernel, by decide +kernel⟩, List.mem_of_getElem? (i := 1110) (by decide +kernel), List.mem_of_getElem? (i := 1423) (by decide +kernel), List.mem_of_getElem? (i := 1424) (by decide +kernel)⟩
theorem lw_p46 : lw_okq (⟨"SameKeeperModel", "fail", "(II)V"⟩, 92) := ⟨⟨by decide +kernel, by decide +kernel⟩, List.mem_of_getElem? (i := 1110) (by decide +kernel), List.mem_of_getElem? (i := 1430) (by decide +kernel), List.mem_of_getElem? (i := 1431) (by decide +kernel)⟩
theorem lw_p47 : lw_okq (⟨"SameKeeperModel", "number", "(II)I"⟩, 92) := ⟨⟨by decide +kernel, by decide +kernel⟩, List.mem_of_getElem? (i := 1110) (by decide +kernel), List.mem_of_getElem? (i := 1434) (by decide +kernel), List.mem_of_getElem? (i := 1435) (by decide +kernel)⟩
def lw_privs_3 : List (MethodName × Nat) := [(⟨"SameKeeper", "passByChance", "()Z"⟩, 18), (⟨"SameKeeper", "draw", "(J)J"⟩, 18), (⟨"SameKeeper$Question", "readTest", "()V"⟩, 4), (⟨"SameKeeper$Question", "readBoth", "()V"⟩, 4), (⟨"SameKeeper$Question", "readFact", "()V"⟩, 4), (⟨"SameKeeper$Question", "isOfDays", "()Z"⟩, 4), (⟨"SameKeeper$Question", "nameDay", "(LSameKeeper$State;LSameKeeper$Graph;II)V"⟩, 4), (⟨"SameKeeper$Question", "joined", "(JJI)J"⟩, 4), (⟨"SameKeeper", "tellsImage", "()Z"⟩, 18), (⟨"SameKeeperModel", "lockTold", "()V"⟩, 92), (⟨"SameKeeperModel", "asks", "([C)V"⟩, 92), (⟨"SameKeeperModel", "takes", "([C)Z"⟩, 92), (⟨"SameKeeperModel", "isHere", "([C)Z"⟩, 92), (⟨"SameKeeperModel", "look", "()I"⟩, 92), (⟨"SameKeeperModel", "fail", "(II)V"⟩, 92), (⟨"SameKeeperModel", "number", "(II)I"⟩, 92)]
theorem lw_r3 : ∀ q ∈ lw_privs_3, lw_okq q := List.forall_mem_cons.mpr ⟨lw_p32, List.forall_mem_cons.mpr ⟨lw_p33, List.forall_mem_cons.mpr ⟨lw_p34, List.forall_mem_cons.mpr ⟨lw_p35, List.forall_mem_cons.mpr ⟨lw_p36, List.forall_mem_cons.mpr ⟨lw_p37, List.forall_mem_cons.mpr ⟨lw_p38, List.forall_mem_cons.mpr ⟨lw_p39, List.forall_mem_cons.mpr ⟨lw_p40, List.forall_mem_cons.mpr ⟨lw_p41, List.forall_mem_cons.mpr ⟨lw_p42, List.forall_mem_cons.mpr ⟨lw_p43, List.forall_mem_cons.mpr ⟨lw_p44, List.forall_mem_cons.mpr ⟨lw_p45, List.forall_mem_cons.mpr ⟨lw_p46, List.forall_mem_cons.mpr ⟨lw_p47, fun _ h => absurd h List.not_mem_nil⟩⟩⟩⟩⟩⟩⟩⟩⟩⟩⟩⟩⟩⟩⟩⟩
theorem lw_p48 : lw_okq (⟨"SameKeeperModel", "asksSign", "(I)V"⟩, 92) := ⟨⟨by decide +kernel, by decide +kernel⟩, List.mem_of_getElem? (i := 1110) (by decide +kernel), List.mem_of_getElem? (i := 1444) (by decide +kernel), List.mem_of_getElem? (i := 1445) (by decide +kernel)⟩
theorem lw_p49 : lw_okq (⟨"SameKeeperModel", "takesSign", "(I)Z"⟩, 92) := ⟨⟨by decide +kernel, by decide +kernel⟩, List.mem_of_getElem? (i := 1110) (by decide +kernel), List.mem_of_getElem? (i := 1448) (by decide +kernel), List.mem_of_getElem? (i := 1449) (by decide +kernel)⟩
theorem lw_p50 : lw_okq (⟨"SameKeeperModel", "statementTold", "()V"⟩, 92) := ⟨⟨by decide +kernel, by decide +kernel⟩, List.mem_of_getElem? (i := 1110) (by decide +kernel), List.mem_of_getElem? (i := 1452) (by decide +kernel), List.mem_of_getElem? (i := 1453) (by decide +kernel)⟩
theorem lw_p51 : lw_okq (⟨"SameKeeperModel", "dayTold", "(I)V"⟩, 92) := ⟨⟨by decide +kernel, by decide +kernel⟩, List.mem_of_getElem? (i := 1110) (by decide +kernel), List.mem_of_getElem? (i := 1456) (by decide +kernel), List.mem_of_getElem? (i := 1457) (by decide +kernel)⟩
theorem lw_p52 : lw_okq (⟨"SameKeeperModel", "muteTold", "()V"⟩, 92) := ⟨⟨by decide +kernel, by decide +kernel⟩, List.mem_of_getElem? (i := 1110) (by decide +kernel), List.mem_of_getElem? (i := 1460) (by decide +kernel), List.mem_of_getElem? (i := 1461) (by decide +kernel)⟩
theorem lw_p53 : lw_okq (⟨"SameKeeperModel", "codesTold", "(II)V"⟩, 92) := ⟨⟨by decide +kernel, by decide +kernel⟩, List.mem_of_getElem? (i := 1110) (by decide +kernel), List.mem_of_getElem? (i := 1464) (by decide +kernel), List.mem_of_getElem? (i := 1465) (by decide +kernel)⟩
theorem lw_p54 : lw_okq (⟨"SameKeeperModel", "qSums", "()V"⟩, 92) := ⟨⟨by decide +kernel, by decide +kernel⟩, List.mem_of_getElem? (i := 1110) (by decide +kernel), List.mem_of_getElem? (i := 1468) (by decide +kernel), List.mem_of_getElem? (i := 1469) (by decide +kernel)⟩
theorem lw_p55 : lw_okq (⟨"SameKeeperModel", "qPartTold", "()V"⟩, 92) := ⟨⟨by decide +kernel, by decide +kernel⟩, List.mem_of_getElem? (i := 1110) (by decide +kernel), List.mem_of_getElem? (i := 1472) (by decide +kernel), List.mem_of_getElem? (i := 1473) (by decide +kernel)⟩
theorem lw_p56 : lw_okq (⟨"SameKeeperModel", "qWordOf", "(II)I"⟩, 92) := ⟨⟨by decide +kernel, by decide +kernel⟩, List.mem_of_getElem? (i := 1110) (by decide +kernel), List.mem_of_getElem? (i := 1476) (by decide +kernel), List.mem_of_getElem? (i := 1477) (by decide +kernel)⟩
theorem lw_p57 : lw_okq (⟨"SameKeeperModel", "qWordHere", "()I"⟩, 92) := ⟨⟨by decide +kernel, by decide +kernel⟩, List.mem_of_getElem? (i := 1110) (by decide +kernel), List.mem_of_getElem? (i := 1480) (by decide +kernel), List.mem_of_getElem? (i := 1481) (by decide +kernel)⟩
theorem lw_p58 : lw_okq (⟨"SameKeeperModel", "isAllowed", "(I)Z"⟩, 92) := ⟨⟨by decide +kernel, by decide +kernel⟩, List.mem_of_getElem? (i := 1110) (by decide +kernel), List.mem_of_getElem? (i := 1484) (by decide +kernel), List.mem_of_getElem? (i := 1485) (by decide +kernel)⟩
theorem lw_p59 : lw_okq (⟨"SameKeeperModel", "qOpens", "(II)V"⟩, 92) := ⟨⟨by decide +kernel, by decide +kernel⟩, List.mem_of_getElem? (i := 1110) (by decide +kernel), List.mem_of_getElem? (i := 1488) (by decide +kernel), List.mem_of_getElem? (i := 1489) (by decide +kernel)⟩
theorem lw_p60 : lw_okq (⟨"SameKeeperModel", "qAsksWord", "(I)V"⟩, 92) := ⟨⟨by decide +kernel, by decide +kernel⟩, List.mem_of_getElem? (i := 1110) (by decide +kernel), List.mem_of_getElem? (i := 1492) (by decide +kernel), List.mem_of_getElem? (i := 1493) (by decide +kernel)⟩
theorem lw_p61 : lw_okq (⟨"SameKeeperModel", "qCode", "(I)V"⟩, 92) := ⟨⟨by decide +kernel, by decide +kernel⟩, List.mem_of_getElem? (i := 1110) (by decide +kernel), List.mem_of_getElem? (i := 1496) (by decide +kernel), List.mem_of_getElem? (i := 1497) (by decide +kernel)⟩
theorem lw_p62 : lw_okq (⟨"SameKeeperModel", "qEndsPart", "()V"⟩, 92) := ⟨⟨by decide +kernel, by decide +kernel⟩, List.mem_of_getElem? (i := 1110) (by decide +kernel), List.mem_of_getElem? (i := 1500) (by decide +kernel), List.mem_of_getElem? (i := 1501) (by decide +kernel)⟩
theorem lw_p63 : lw_okq (⟨"SameKeeperModel", "qDrops", "()V"⟩, 92) := ⟨⟨by decide +kernel, by decide +kernel⟩, List.mem_of_getElem? (i := 1110) (by decide +kernel), List.mem_of_getElem? (i := 1504) (by decide +kernel), List.mem_of_getElem? (i := 1505) (by decide +kernel)⟩
def lw_privs_4 : List (MethodName × Nat) := [(⟨"SameKeeperModel", "asksSign", "(I)V"⟩, 92), (⟨"SameKeeperModel", "takesSign", "(I)Z"⟩, 92), (⟨"SameKeeperModel", "statementTold", "()V"⟩, 92), (⟨"SameKeeperModel", "dayTold", "(I)V"⟩, 92), (⟨"SameKeeperModel", "muteTold", "()V"⟩, 92), (⟨"SameKeeperModel", "codesTold", "(II)V"⟩, 92), (⟨"SameKeeperModel", "qSums", "()V"⟩, 92), (⟨"SameKeeperModel", "qPartTold", "()V"⟩, 92), (⟨"SameKeeperModel", "qWordOf", "(II)I"⟩, 92), (⟨"SameKeeperModel", "qWordHere", "()I"⟩, 92), (⟨"SameKeeperModel", "isAllowed", "(I)Z"⟩, 92), (⟨"SameKeeperModel", "qOpens", "(II)V"⟩, 92), (⟨"SameKeeperModel", "qAsksWord", "(I)V"⟩, 92), (⟨"SameKeeperModel", "qCode", "(I)V"⟩, 92), (⟨"SameKeeperModel", "qEndsPart", "()V"⟩, 92), (⟨"SameKeeperModel", "qDrops", "()V"⟩, 92)]
theorem lw_r4 : ∀ q ∈ lw_privs_4, lw_okq q := List.forall_mem_cons.mpr ⟨lw_p48, List.forall_mem_cons.mpr ⟨lw_p49, List.forall_mem_cons.mpr ⟨lw_p50, List.forall_mem_cons.mpr ⟨lw_p51, List.forall_mem_cons.mpr ⟨lw_p52, List.forall_mem_cons.mpr ⟨lw_p53, List.forall_mem_cons.mpr ⟨lw_p54, List.forall_mem_cons.mpr ⟨lw_p55, List.forall_mem_cons.mpr ⟨lw_p56, List.forall_mem_cons.mpr ⟨lw_p57, List.forall_mem_cons.mpr ⟨lw_p58, List.forall_mem_cons.mpr ⟨lw_p59, List.forall_mem_cons.mpr ⟨lw_p60, List.forall_mem_cons.mpr ⟨lw_p61, List.forall_mem_cons.mpr ⟨lw_p62, List.forall_mem_cons.mpr ⟨lw_p63, fun _ h => absurd h List.not_mem_nil⟩⟩⟩⟩⟩⟩⟩⟩⟩⟩⟩⟩⟩⟩⟩⟩
theorem lw_p64 : lw_okq (⟨"SameKeeperModel", "qGoesOn", "()Z"⟩, 92) := ⟨⟨by decide +kernel, by decide +kernel⟩, List.mem_of_getElem? (i := 1110) (by decide +kernel), List.mem_of_getElem? (i := 1508) (by decide +kernel), List.mem_of_getElem? (i := 1509) (by decide +kernel)⟩
theorem lw_p65 : lw_okq (⟨"SameKeeperModel", "qBracket", "()I"⟩, 92) := ⟨⟨by decide +kernel, by decide +kernel⟩, List.mem_of_getElem? (i := 1110) (by decide +kernel), List.mem_of_getElem? (i := 1512) (by decide +kernel), List.mem_of_getElem? (i := 1513) (by decide +kernel)⟩
theorem lw_p66 : lw_okq (⟨"SameKeeperModel", "qDropsToBracket", "()V"⟩, 92) := ⟨⟨by decide +kernel, by decide +kernel⟩, List.mem_of_getElem? (i := 1110) (by decide +kernel), List.mem_of_getElem? (i := 1519) (by decide +kernel), List.mem_of_getElem? (i := 1520) (by decide +kernel)⟩
theorem lw_p67 : lw_okq (⟨"SameKeeperModel", "qIsOn", "(I)Z"⟩, 92) := ⟨⟨by decide +kernel, by decide +kernel⟩, List.mem_of_getElem? (i := 1110) (by decide +kernel), List.mem_of_getElem? (i := 1523) (by decide +kernel), List.mem_of_getElem? (i := 1524) (by decide +kernel)⟩
theorem lw_p68 : lw_okq (⟨"SameKeeperModel", "stands", "()V"⟩, 92) := ⟨⟨by decide +kernel, by decide +kernel⟩, List.mem_of_getElem? (i := 1110) (by decide +kernel), List.mem_of_getElem? (i := 1527) (by decide +kernel), List.mem_of_getElem? (i := 1528) (by decide +kernel)⟩
theorem lw_p69 : lw_okq (⟨"SameKeeperModel", "dayMany", "()I"⟩, 92) := ⟨⟨by decide +kernel, by decide +kernel⟩, List.mem_of_getElem? (i := 1110) (by decide +kernel), List.mem_of_getElem? (i := 1539) (by decide +kernel), List.mem_of_getElem? (i := 1540) (by decide +kernel)⟩
theorem lw_p70 : lw_okq (⟨"SameKeeperModel", "muteSet", "()I"⟩, 92) := ⟨⟨by decide +kernel, by decide +kernel⟩, List.mem_of_getElem? (i := 1110) (by decide +kernel), List.mem_of_getElem? (i := 1543) (by decide +kernel), List.mem_of_getElem? (i := 1544) (by decide +kernel)⟩
theorem lw_p71 : lw_okq (⟨"SameKeeperModel", "isMute", "(I)Z"⟩, 92) := ⟨⟨by decide +kernel, by decide +kernel⟩, List.mem_of_getElem? (i := 1110) (by decide +kernel), List.mem_of_getElem? (i := 1547) (by decide +kernel), List.mem_of_getElem? (i := 1548) (by decide +kernel)⟩
theorem lw_p72 : lw_okq (⟨"SameKeeperModel", "isDay", "(I)Z"⟩, 92) := ⟨⟨by decide +kernel, by decide +kernel⟩, List.mem_of_getElem? (i := 1110) (by decide +kernel), List.mem_of_getElem? (i := 1558) (by decide +kernel), List.mem_of_getElem? (i := 1559) (by decide +kernel)⟩
theorem lw_p73 : lw_okq (⟨"SameKeeperModel", "isMood", "(I)Z"⟩, 92) := ⟨⟨by decide +kernel, by decide +kernel⟩, List.mem_of_getElem? (i := 1110) (by decide +kernel), List.mem_of_getElem? (i := 1567) (by decide +kernel), List.mem_of_getElem? (i := 1568) (by decide +kernel)⟩
theorem lw_p74 : lw_okq (⟨"SameKeeperModel", "wordOf", "(II)I"⟩, 92) := ⟨⟨by decide +kernel, by decide +kernel⟩, List.mem_of_getElem? (i := 1110) (by decide +kernel), List.mem_of_getElem? (i := 1572) (by decide +kernel), List.mem_of_getElem? (i := 1573) (by decide +kernel)⟩
theorem lw_p75 : lw_okq (⟨"SameKeeperModel", "codesTell", "(II)J"⟩, 92) := ⟨⟨by decide +kernel, by decide +kernel⟩, List.mem_of_getElem? (i := 1110) (by decide +kernel), List.mem_of_getElem? (i := 1576) (by decide +kernel), List.mem_of_getElem? (i := 1577) (by decide +kernel)⟩
theorem lw_p76 : lw_okq (⟨"SameKeeperModel", "qPuts", "(J)V"⟩, 92) := ⟨⟨by decide +kernel, by decide +kernel⟩, List.mem_of_getElem? (i := 1110) (by decide +kernel), List.mem_of_getElem? (i := 1580) (by decide +kernel), List.mem_of_getElem? (i := 1581) (by decide +kernel)⟩
theorem lw_p77 : lw_okq (⟨"SameKeeperModel", "qPartOf", "(II)J"⟩, 92) := ⟨⟨by decide +kernel, by decide +kernel⟩, List.mem_of_getElem? (i := 1110) (by decide +kernel), List.mem_of_getElem? (i := 1584) (by decide +kernel), List.mem_of_getElem? (i := 1585) (by decide +kernel)⟩
theorem lw_p78 : lw_okq (⟨"SameKeeperModel", "bargeOf", "(I)I"⟩, 92) := ⟨⟨by decide +kernel, by decide +kernel⟩, List.mem_of_getElem? (i := 1110) (by decide +kernel), List.mem_of_getElem? (i := 1588) (by decide +kernel), List.mem_of_getElem? (i := 1589) (by decide +kernel)⟩
theorem lw_p79 : lw_okq (⟨"SameKeeperModel", "wetOf", "(I)I"⟩, 92) := ⟨⟨by decide +kernel, by decide +kernel⟩, List.mem_of_getElem? (i := 1110) (by decide +kernel), List.mem_of_getElem? (i := 1592) (by decide +kernel), List.mem_of_getElem? (i := 1593) (by decide +kernel)⟩
def lw_privs_5 : List (MethodName × Nat) := [(⟨"SameKeeperModel", "qGoesOn", "()Z"⟩, 92), (⟨"SameKeeperModel", "qBracket", "()I"⟩, 92), (⟨"SameKeeperModel", "qDropsToBracket", "()V"⟩, 92), (⟨"SameKeeperModel", "qIsOn", "(I)Z"⟩, 92), (⟨"SameKeeperModel", "stands", "()V"⟩, 92), (⟨"SameKeeperModel", "dayMany", "()I"⟩, 92), (⟨"SameKeeperModel", "muteSet", "()I"⟩, 92), (⟨"SameKeeperModel", "isMute", "(I)Z"⟩, 92), (⟨"SameKeeperModel", "isDay", "(I)Z"⟩, 92), (⟨"SameKeeperModel", "isMood", "(I)Z"⟩, 92), (⟨"SameKeeperModel", "wordOf", "(II)I"⟩, 92), (⟨"SameKeeperModel", "codesTell", "(II)J"⟩, 92), (⟨"SameKeeperModel", "qPuts", "(J)V"⟩, 92), (⟨"SameKeeperModel", "qPartOf", "(II)J"⟩, 92), (⟨"SameKeeperModel", "bargeOf", "(I)I"⟩, 92), (⟨"SameKeeperModel", "wetOf", "(I)I"⟩, 92)]
theorem lw_r5 : ∀ q ∈ lw_privs_5, lw_okq q := List.forall_mem_cons.mpr ⟨lw_p64, List.forall_mem_cons.mpr ⟨lw_p65, List.forall_mem_cons.mpr ⟨lw_p66, List.forall_mem_cons.mpr ⟨lw_p67, List.forall_mem_cons.mpr ⟨lw_p68, List.forall_mem_cons.mpr ⟨lw_p69, List.forall_mem_cons.mpr ⟨lw_p70, List.forall_mem_cons.mpr ⟨lw_p71, List.forall_mem_cons.mpr ⟨lw_p72, List.forall_mem_cons.mpr ⟨lw_p73, List.forall_mem_cons.mpr ⟨lw_p74, List.forall_mem_cons.mpr ⟨lw_p75, List.forall_mem_cons.mpr ⟨lw_p76, List.forall_mem_cons.mpr ⟨lw_p77, List.forall_mem_cons.mpr ⟨lw_p78, List.forall_mem_cons.mpr ⟨lw_p79, fun _ h => absurd h List.not_mem_nil⟩⟩⟩⟩⟩⟩⟩⟩⟩⟩⟩⟩⟩⟩⟩⟩
theorem lw_p80 : lw_okq (⟨"SameKeeperModel", "qJoins", "(I)V"⟩, 92) := ⟨⟨by decide +kernel, by decide +kernel⟩, List.mem_of_getElem? (i := 1110) (by decide +kernel), List.mem_of_getElem? (i := 1597) (by decide +kernel), List.mem_of_getElem? (i := 1598) (by decide +kernel)⟩
theorem lw_p81 : lw_okq (⟨"SameKeeperModel", "becomesBy", "(IIIZ)I"⟩, 92) := ⟨⟨by decide +kernel, by decide +kernel⟩, List.mem_of_getElem? (i := 1110) (by decide +kernel), List.mem_of_getElem? (i := 1617) (by decide +kernel), List.mem_of_getElem? (i := 1618) (by decide +kernel)⟩
theorem lw_p82 : lw_okq (⟨"SameKeeperModel", "laysAll", "()V"⟩, 92) := ⟨⟨by decide +kernel, by decide +kernel⟩, List.mem_of_getElem? (i := 1110) (by decide +kernel), List.mem_of_getElem? (i := 1630) (by decide +kernel), List.mem_of_getElem? (i := 1631) (by decide +kernel)⟩
theorem lw_p83 : lw_okq (⟨"SameKeeperModel", "laysDays", "(I)V"⟩, 92) := ⟨⟨by decide +kernel, by decide +kernel⟩, List.mem_of_getElem? (i := 1110) (by decide +kernel), List.mem_of_getElem? (i := 1634) (by decide +kernel), List.mem_of_getElem? (i := 1635) (by decide +kernel)⟩
theorem lw_p84 : lw_okq (⟨"SameKeeperModel", "laysWays", "()V"⟩, 92) := ⟨⟨by decide +kernel, by decide +kernel⟩, List.mem_of_getElem? (i := 1110) (by decide +kernel), List.mem_of_getElem? (i := 1638) (by decide +kernel), List.mem_of_getElem? (i := 1639) (by decide +kernel)⟩
theorem lw_p85 : lw_okq (⟨"SameKeeperModel", "canFollow", "(III)Z"⟩, 92) := ⟨⟨by decide +kernel, by decide +kernel⟩, List.mem_of_getElem? (i := 1110) (by decide +kernel), List.mem_of_getElem? (i := 1642) (by decide +kernel), List.mem_of_getElem? (i := 1643) (by decide +kernel)⟩
theorem lw_p86 : lw_okq (⟨"SameKeeperModel", "isMuteNow", "(I)Z"⟩, 92) := ⟨⟨by decide +kernel, by decide +kernel⟩, List.mem_of_getElem? (i := 1110) (by decide +kernel), List.mem_of_getElem? (i := 1646) (by decide +kernel), List.mem_of_getElem? (i := 1647) (by decide +kernel)⟩
theorem lw_p87 : lw_okq (⟨"SameKeeperModel", "isLeft", "(II)Z"⟩, 92) := ⟨⟨by decide +kernel, by decide +kernel⟩, List.mem_of_getElem? (i := 1110) (by decide +kernel), List.mem_of_getElem? (i := 1650) (by decide +kernel), List.mem_of_getElem? (i := 1651) (by decide +kernel)⟩
theorem lw_p88 : lw_okq (⟨"SameKeeperModel", "walksTo", "(J)V"⟩, 92) := ⟨⟨by decide +kernel, by decide +kernel⟩, List.mem_of_getElem? (i := 1110) (by decide +kernel), List.mem_of_getElem? (i := 1658) (by decide +kernel), List.mem_of_getElem? (i := 1659) (by decide +kernel)⟩
theorem lw_p89 : lw_okq (⟨"SameKeeperModel", "doesAgree", "(I)Z"⟩, 92) := ⟨⟨by decide +kernel, by decide +kernel⟩, List.mem_of_getElem? (i := 1110) (by decide +kernel), List.mem_of_getElem? (i := 1670) (by decide +kernel), List.mem_of_getElem? (i := 1671) (by decide +kernel)⟩
theorem lw_p90 : lw_okq (⟨"SameKeeperModel", "isAhead", "(III)Z"⟩, 92) := ⟨⟨by decide +kernel, by decide +kernel⟩, List.mem_of_getElem? (i := 1110) (by decide +kernel), List.mem_of_getElem? (i := 1686) (by decide +kernel), List.mem_of_getElem? (i := 1687) (by decide +kernel)⟩
theorem lw_p91 : lw_okq (⟨"SameKeeperModel", "putsAside", "()V"⟩, 92) := ⟨⟨by decide +kernel, by decide +kernel⟩, List.mem_of_getElem? (i := 1110) (by decide +kernel), List.mem_of_getElem? (i := 1690) (by decide +kernel), List.mem_of_getElem? (i := 1691) (by decide +kernel)⟩
theorem lw_p92 : lw_okq (⟨"SameKeeperModel", "doGo", "()Z"⟩, 92) := ⟨⟨by decide +kernel, by decide +kernel⟩, List.mem_of_getElem? (i := 1110) (by decide +kernel), List.mem_of_getElem? (i := 1694) (by decide +kernel), List.mem_of_getElem? (i := 1695) (by decide +kernel)⟩
theorem lw_p93 : lw_okq (⟨"SameKeeperModel", "goesBy", "(J)V"⟩, 92) := ⟨⟨by decide +kernel, by decide +kernel⟩, List.mem_of_getElem? (i := 1110) (by decide +kernel), List.mem_of_getElem? (i := 1698) (by decide +kernel), List.mem_of_getElem? (i := 1699) (by decide +kernel)⟩
theorem lw_p94 : lw_okq (⟨"SameKeeperModel", "isKept", "()V"⟩, 92) := ⟨⟨by decide +kernel, by decide +kernel⟩, List.mem_of_getElem? (i := 1110) (by decide +kernel), List.mem_of_getElem? (i := 1702) (by decide +kernel), List.mem_of_getElem? (i := 1703) (by decide +kernel)⟩
theorem lw_p95 : lw_okq (⟨"SameKeeperModel", "takesBack", "()V"⟩, 92) := ⟨⟨by decide +kernel, by decide +kernel⟩, List.mem_of_getElem? (i := 1110) (by decide +kernel), List.mem_of_getElem? (i := 1706) (by decide +kernel), List.mem_of_getElem? (i := 1707) (by decide +kernel)⟩
def lw_privs_6 : List (MethodName × Nat) := [(⟨"SameKeeperModel", "qJoins", "(I)V"⟩, 92), (⟨"SameKeeperModel", "becomesBy", "(IIIZ)I"⟩, 92), (⟨"SameKeeperModel", "laysAll", "()V"⟩, 92), (⟨"SameKeeperModel", "laysDays", "(I)V"⟩, 92), (⟨"SameKeeperModel", "laysWays", "()V"⟩, 92), (⟨"SameKeeperModel", "canFollow", "(III)Z"⟩, 92), (⟨"SameKeeperModel", "isMuteNow", "(I)Z"⟩, 92), (⟨"SameKeeperModel", "isLeft", "(II)Z"⟩, 92), (⟨"SameKeeperModel", "walksTo", "(J)V"⟩, 92), (⟨"SameKeeperModel", "doesAgree", "(I)Z"⟩, 92), (⟨"SameKeeperModel", "isAhead", "(III)Z"⟩, 92), (⟨"SameKeeperModel", "putsAside", "()V"⟩, 92), (⟨"SameKeeperModel", "doGo", "()Z"⟩, 92), (⟨"SameKeeperModel", "goesBy", "(J)V"⟩, 92), (⟨"SameKeeperModel", "isKept", "()V"⟩, 92), (⟨"SameKeeperModel", "takesBack", "()V"⟩, 92)]
theorem lw_r6 : ∀ q ∈ lw_privs_6, lw_okq q := List.forall_mem_cons.mpr ⟨lw_p80, List.forall_mem_cons.mpr ⟨lw_p81, List.forall_mem_cons.mpr ⟨lw_p82, List.forall_mem_cons.mpr ⟨lw_p83, List.forall_mem_cons.mpr ⟨lw_p84, List.forall_mem_cons.mpr ⟨lw_p85, List.forall_mem_cons.mpr ⟨lw_p86, List.forall_mem_cons.mpr ⟨lw_p87, List.forall_mem_cons.mpr ⟨lw_p88, List.forall_mem_cons.mpr ⟨lw_p89, List.forall_mem_cons.mpr ⟨lw_p90, List.forall_mem_cons.mpr ⟨lw_p91, List.forall_mem_cons.mpr ⟨lw_p92, List.forall_mem_cons.mpr ⟨lw_p93, List.forall_mem_cons.mpr ⟨lw_p94, List.forall_mem_cons.mpr ⟨lw_p95, fun _ h => absurd h List.not_mem_nil⟩⟩⟩⟩⟩⟩⟩⟩⟩⟩⟩⟩⟩⟩⟩⟩
theorem lw_p96 : lw_okq (⟨"SameKeeperModel", "laysPay", "()V"⟩, 92) := ⟨⟨by decide +kernel, by decide +kernel⟩, List.mem_of_getElem? (i := 1110) (by decide +kernel), List.mem_of_getElem? (i := 1722) (by decide +kernel), List.mem_of_getElem? (i := 1723) (by decide +kernel)⟩
theorem lw_p97 : lw_okq (⟨"SameKeeperModel", "wageOf", "(II)J"⟩, 92) := ⟨⟨by decide +kernel, by decide +kernel⟩, List.mem_of_getElem? (i := 1110) (by decide +kernel), List.mem_of_getElem? (i := 1726) (by decide +kernel), List.mem_of_getElem? (i := 1727) (by decide +kernel)⟩
theorem lw_p98 : lw_okq (⟨"SameKeeperModel", "bestBehind", "(II)I"⟩, 92) := ⟨⟨by decide +kernel, by decide +kernel⟩, List.mem_of_getElem? (i := 1110) (by decide +kernel), List.mem_of_getElem? (i := 1730) (by decide +kernel), List.mem_of_getElem? (i := 1731) (by decide +kernel)⟩
theorem lw_p99 : lw_okq (⟨"SameKeeperModel", "laysRest", "()V"⟩, 92) := ⟨⟨by decide +kernel, by decide +kernel⟩, List.mem_of_getElem? (i := 1110) (by decide +kernel), List.mem_of_getElem? (i := 1742) (by decide +kernel), List.mem_of_getElem? (i := 1743) (by decide +kernel)⟩
theorem lw_p100 : lw_okq (⟨"SameKeeperModel", "isRest", "(I)Z"⟩, 92) := ⟨⟨by decide +kernel, by decide +kernel⟩, List.mem_of_getElem? (i := 1110) (by decide +kernel), List.mem_of_getElem? (i := 1746) (by decide +kernel), List.mem_of_getElem? (i := 1747) (by decide +kernel)⟩
theorem lw_p101 : lw_okq (⟨"SameKeeperModel", "canBeTold", "(II)Z"⟩, 92) := ⟨⟨by decide +kernel, by decide +kernel⟩, List.mem_of_getElem? (i := 1110) (by decide +kernel), List.mem_of_getElem? (i := 1758) (by decide +kernel), List.mem_of_getElem? (i := 1759) (by decide +kernel)⟩
theorem lw_p102 : lw_okq (⟨"SameKeeperModel", "laysByWord", "(II)V"⟩, 92) := ⟨⟨by decide +kernel, by decide +kernel⟩, List.mem_of_getElem? (i := 1110) (by decide +kernel), List.mem_of_getElem? (i := 1762) (by decide +kernel), List.mem_of_getElem? (i := 1763) (by decide +kernel)⟩
theorem lw_p103 : lw_okq (⟨"SameKeeperModel", "moodsOf", "(I)I"⟩, 92) := ⟨⟨by decide +kernel, by decide +kernel⟩, List.mem_of_getElem? (i := 1110) (by decide +kernel), List.mem_of_getElem? (i := 1766) (by decide +kernel), List.mem_of_getElem? (i := 1767) (by decide +kernel)⟩
theorem lw_p104 : lw_okq (⟨"SameKeeperModel", "refuses", "(I)I"⟩, 92) := ⟨⟨by decide +kernel, by decide +kernel⟩, List.mem_of_getElem? (i := 1110) (by decide +kernel), List.mem_of_getElem? (i := 1778) (by decide +kernel), List.mem_of_getElem? (i := 1779) (by decide +kernel)⟩
theorem lw_p105 : lw_okq (⟨"SameKeeperModel", "laysHeard", "()V"⟩, 92) := ⟨⟨by decide +kernel, by decide +kernel⟩, List.mem_of_getElem? (i := 1110) (by decide +kernel), List.mem_of_getElem? (i := 1786) (by decide +kernel), List.mem_of_getElem? (i := 1787) (by decide +kernel)⟩
theorem lw_p106 : lw_okq (⟨"SameKeeperModel", "becomes", "(IIIZ)Z"⟩, 92) := ⟨⟨by decide +kernel, by decide +kernel⟩, List.mem_of_getElem? (i := 1110) (by decide +kernel), List.mem_of_getElem? (i := 1807) (by decide +kernel), List.mem_of_getElem? (i := 1808) (by decide +kernel)⟩
theorem lw_p107 : lw_okq (⟨"SameKeeperModel", "keeps", "()V"⟩, 92) := ⟨⟨by decide +kernel, by decide +kernel⟩, List.mem_of_getElem? (i := 1110) (by decide +kernel), List.mem_of_getElem? (i := 1811) (by decide +kernel), List.mem_of_getElem? (i := 1812) (by decide +kernel)⟩
theorem lw_p108 : lw_okq (⟨"SameKeeperModel", "drawsDays", "()V"⟩, 92) := ⟨⟨by decide +kernel, by decide +kernel⟩, List.mem_of_getElem? (i := 1110) (by decide +kernel), List.mem_of_getElem? (i := 1831) (by decide +kernel), List.mem_of_getElem? (i := 1832) (by decide +kernel)⟩
theorem lw_p109 : lw_okq (⟨"SameKeeperModel", "drawOf", "(J)J"⟩, 92) := ⟨⟨by decide +kernel, by decide +kernel⟩, List.mem_of_getElem? (i := 1110) (by decide +kernel), List.mem_of_getElem? (i := 1836) (by decide +kernel), List.mem_of_getElem? (i := 1837) (by decide +kernel)⟩
theorem lw_p110 : lw_okq (⟨"SameKeeperModel", "qKind", "()I"⟩, 92) := ⟨⟨by decide +kernel, by decide +kernel⟩, List.mem_of_getElem? (i := 1110) (by decide +kernel), List.mem_of_getElem? (i := 1848) (by decide +kernel), List.mem_of_getElem? (i := 1849) (by decide +kernel)⟩
theorem lw_p111 : lw_okq (⟨"SameKeeperModel", "qTest", "()V"⟩, 92) := ⟨⟨by decide +kernel, by decide +kernel⟩, List.mem_of_getElem? (i := 1110) (by decide +kernel), List.mem_of_getElem? (i := 1852) (by decide +kernel), List.mem_of_getElem? (i := 1853) (by decide +kernel)⟩
def lw_privs_7 : List (MethodName × Nat) := [(⟨"SameKeeperModel", "laysPay", "()V"⟩, 92), (⟨"SameKeeperModel", "wageOf", "(II)J"⟩, 92), (⟨"SameKeeperModel", "bestBehind", "(II)I"⟩, 92), (⟨"SameKeeperModel", "laysRest", "()V"⟩, 92), (⟨"SameKeeperModel", "isRest", "(I)Z"⟩, 92), (⟨"SameKeeperModel", "canBeTold", "(II)Z"⟩, 92), (⟨"SameKeeperModel", "laysByWord", "(II)V"⟩, 92), (⟨"SameKeeperModel", "moodsOf", "(I)I"⟩, 92), (⟨"SameKeeperModel", "refuses", "(I)I"⟩, 92), (⟨"SameKeeperModel", "laysHeard", "()V"⟩, 92), (⟨"SameKeeperModel", "becomes", "(IIIZ)Z"⟩, 92), (⟨"SameKeeperModel", "keeps", "()V"⟩, 92), (⟨"SameKeeperModel", "drawsDays", "()V"⟩, 92), (⟨"SameKeeperModel", "drawOf", "(J)J"⟩, 92), (⟨"SameKeeperModel", "qKind", "()I"⟩, 92), (⟨"SameKeeperModel", "qTest", "()V"⟩, 92)]
theorem lw_r7 : ∀ q ∈ lw_privs_7, lw_okq q := List.forall_mem_cons.mpr ⟨lw_p96, List.forall_mem_cons.mpr ⟨lw_p97, List.forall_mem_cons.mpr ⟨lw_p98, List.forall_mem_cons.mpr ⟨lw_p99, List.forall_mem_cons.mpr ⟨lw_p100, List.forall_mem_cons.mpr ⟨lw_p101, List.forall_mem_cons.mpr ⟨lw_p102, List.forall_mem_cons.mpr ⟨lw_p103, List.forall_mem_cons.mpr ⟨lw_p104, List.forall_mem_cons.mpr ⟨lw_p105, List.forall_mem_cons.mpr ⟨lw_p106, List.forall_mem_cons.mpr ⟨lw_p107, List.forall_mem_cons.mpr ⟨lw_p108, List.forall_mem_cons.mpr ⟨lw_p109, List.forall_mem_cons.mpr ⟨lw_p110, List.forall_mem_cons.mpr ⟨lw_p111, fun _ h => absurd h List.not_mem_nil⟩⟩⟩⟩⟩⟩⟩⟩⟩⟩⟩⟩⟩⟩⟩⟩
theorem lw_p112 : lw_okq (⟨"SameKeeperModel", "qFact", "()V"⟩, 92) := ⟨⟨by decide +kernel, by decide +kernel⟩, List.mem_of_getElem? (i := 1110) (by decide +kernel), List.mem_of_getElem? (i := 1856) (by decide +kernel), List.mem_of_getElem? (i := 1857) (by decide +kernel)⟩
theorem lw_p113 : lw_okq (⟨"SameKeeperModel", "qDropsNots", "()V"⟩, 92) := ⟨⟨by decide +kernel, by decide +kernel⟩, List.mem_of_getElem? (i := 1110) (by decide +kernel), List.mem_of_getElem? (i := 1860) (by decide +kernel), List.mem_of_getElem? (i := 1861) (by decide +kernel)⟩
theorem lw_p114 : lw_okq (⟨"SameKeeperModel", "qGoesOnTest", "()Z"⟩, 92) := ⟨⟨by decide +kernel, by decide +kernel⟩, List.mem_of_getElem? (i := 1110) (by decide +kernel), List.mem_of_getElem? (i := 1864) (by decide +kernel), List.mem_of_getElem? (i := 1865) (by decide +kernel)⟩
theorem lw_p115 : lw_okq (⟨"SameKeeperModel", "qHasSquare", "()Z"⟩, 92) := ⟨⟨by decide +kernel, by decide +kernel⟩, List.mem_of_getElem? (i := 1110) (by decide +kernel), List.mem_of_getElem? (i := 1868) (by decide +kernel), List.mem_of_getElem? (i := 1869) (by decide +kernel)⟩
theorem lw_p116 : lw_okq (⟨"SameKeeperModel", "qTold", "(I)J"⟩, 92) := ⟨⟨by decide +kernel, by decide +kernel⟩, List.mem_of_getElem? (i := 1110) (by decide +kernel), List.mem_of_getElem? (i := 1872) (by decide +kernel), List.mem_of_getElem? (i := 1873) (by decide +kernel)⟩
theorem lw_p117 : lw_okq (⟨"SameKeeperModel", "qOf", "(IJI)J"⟩, 92) := ⟨⟨by decide +kernel, by decide +kernel⟩, List.mem_of_getElem? (i := 1110) (by decide +kernel), List.mem_of_getElem? (i := 1876) (by decide +kernel), List.mem_of_getElem? (i := 1877) (by decide +kernel)⟩
theorem lw_p118 : lw_okq (⟨"SameKeeperModel", "qTakes", "(IJI)V"⟩, 92) := ⟨⟨by decide +kernel, by decide +kernel⟩, List.mem_of_getElem? (i := 1110) (by decide +kernel), List.mem_of_getElem? (i := 1880) (by decide +kernel), List.mem_of_getElem? (i := 1881) (by decide +kernel)⟩
theorem lw_p119 : lw_okq (⟨"SameKeeperModel", "writes", "(I)V"⟩, 92) := ⟨⟨by decide +kernel, by decide +kernel⟩, List.mem_of_getElem? (i := 1110) (by decide +kernel), List.mem_of_getElem? (i := 1888) (by decide +kernel), List.mem_of_getElem? (i := 1889) (by decide +kernel)⟩
theorem lw_p120 : lw_okq (⟨"SameKeeperModel", "isImage", "(I)Z"⟩, 92) := ⟨⟨by decide +kernel, by decide +kernel⟩, List.mem_of_getElem? (i := 1110) (by decide +kernel), List.mem_of_getElem? (i := 1903) (by decide +kernel), List.mem_of_getElem? (i := 1904) (by decide +kernel)⟩
def lw_privs_8 : List (MethodName × Nat) := [(⟨"SameKeeperModel", "qFact", "()V"⟩, 92), (⟨"SameKeeperModel", "qDropsNots", "()V"⟩, 92), (⟨"SameKeeperModel", "qGoesOnTest", "()Z"⟩, 92), (⟨"SameKeeperModel", "qHasSquare", "()Z"⟩, 92), (⟨"SameKeeperModel", "qTold", "(I)J"⟩, 92), (⟨"SameKeeperModel", "qOf", "(IJI)J"⟩, 92), (⟨"SameKeeperModel", "qTakes", "(IJI)V"⟩, 92), (⟨"SameKeeperModel", "writes", "(I)V"⟩, 92), (⟨"SameKeeperModel", "isImage", "(I)Z"⟩, 92)]
theorem lw_r8 : ∀ q ∈ lw_privs_8, lw_okq q := List.forall_mem_cons.mpr ⟨lw_p112, List.forall_mem_cons.mpr ⟨lw_p113, List.forall_mem_cons.mpr ⟨lw_p114, List.forall_mem_cons.mpr ⟨lw_p115, List.forall_mem_cons.mpr ⟨lw_p116, List.forall_mem_cons.mpr ⟨lw_p117, List.forall_mem_cons.mpr ⟨lw_p118, List.forall_mem_cons.mpr ⟨lw_p119, List.forall_mem_cons.mpr ⟨lw_p120, fun _ h => absurd h List.not_mem_nil⟩⟩⟩⟩⟩⟩⟩⟩⟩
def lw_privs : List (MethodName × Nat) := lw_privs_1 ++ (lw_privs_2 ++ (lw_privs_3 ++ (lw_privs_4 ++ (lw_privs_5 ++ (lw_privs_6 ++ (lw_privs_7 ++ (lw_privs_8)))))))
def lw_tbl : List Cond := k2_sels lw_privs ++ tables_1
theorem lw_privs_ok : ∀ q ∈ lw_privs, lw_okq q := by
  show ∀ q ∈ lw_privs_1 ++ (lw_privs_2 ++ (lw_privs_3 ++ (lw_privs_4 ++ (lw_privs_5 ++ (lw_privs_6 ++ (lw_privs_7 ++ (lw_privs_8))))))), lw_okq q
  exact List.forall_mem_append.mpr ⟨lw_r1, List.forall_mem_append.mpr ⟨lw_r2, List.forall_mem_append.mpr ⟨lw_r3, List.forall_mem_append.mpr ⟨lw_r4, List.forall_mem_append.mpr ⟨lw_r5, List.forall_mem_append.mpr ⟨lw_r6, List.forall_mem_append.mpr ⟨lw_r7, lw_r8⟩⟩⟩⟩⟩⟩⟩
-- ===== end of PART A; then your names; then what follows =====
def RX0 : String := "SameKeeper$Code"
def TX0 : u_T := fun k => match k with
  | 0 => ("SameKeeper$Code", "steps", "[I", true)
  | 1 => ("SameKeeper$Code", "stack", "[J", true)
  | 2 => ("SameKeeper$Code", "names", "[J", true)
  | 3 => ("SameKeeper$Code", "counts", "[J", true)
  | 4 => ("SameKeeper$Code", "length", "I", false)
  | _ => ("SameKeeper$Code", "mindsWeek", "Z", false)
def tyX0 : Nat → FieldType := fun k => match k with
  | 0 => .array .int
  | 1 => .array .long
  | 2 => .array .long
  | 3 => .array .long
  | 4 => .int
  | _ => .boolean
theorem nmX0 : ∀ a, a < 6 → ∀ b, b < 6 → a ≠ b → (TX0 a).2.1 ≠ (TX0 b).2.1 := by decide +kernel
theorem tyX0_ok : ∀ k, k < 6 → parseFieldDescriptor (TX0 k).2.2.1 = some (tyX0 k) := by decide +kernel
abbrev cX0_init : ByteArray := prog_2_method_1_code
def yX0_init : MethodName := ⟨RX0, "<init>", "()V"⟩
abbrev cX0_clear : ByteArray := prog_2_method_2_code
def yX0_clear : MethodName := ⟨RX0, "clear", "()V"⟩
abbrev cX0_add : ByteArray := prog_2_method_3_code
def yX0_add : MethodName := ⟨RX0, "add", "(I)V"⟩
abbrev cX0_name : ByteArray := prog_2_method_4_code
def yX0_name : MethodName := ⟨RX0, "name", "(IJ)V"⟩
abbrev cX0_nameCount : ByteArray := prog_2_method_5_code
def yX0_nameCount : MethodName := ⟨RX0, "nameCount", "(IJ)V"⟩
abbrev cX0_run : ByteArray := prog_2_method_6_code
def yX0_run : MethodName := ⟨RX0, "run", "(II)J"⟩
abbrev cX0_ofOne : ByteArray := prog_2_method_7_code
def yX0_ofOne : MethodName := ⟨RX0, "ofOne", "(IJ)J"⟩
abbrev cX0_ofTwo : ByteArray := prog_2_method_8_code
def yX0_ofTwo : MethodName := ⟨RX0, "ofTwo", "(IJJ)J"⟩
abbrev cX0_bounded : ByteArray := prog_2_method_9_code
def yX0_bounded : MethodName := ⟨RX0, "bounded", "(J)J"⟩
def RX1 : String := "SameKeeper$Graph"
def TX1 : u_T := fun k => match k with
  | 0 => ("SameKeeper$Graph", "table", "LSameKeeper$Table;", true)
  | 1 => ("SameKeeper$Graph", "leads", "[I", true)
  | 2 => ("SameKeeper$Graph", "allowed", "[I", true)
  | 3 => ("SameKeeper$Graph", "live", "[I", true)
  | 4 => ("SameKeeper$Graph", "ways", "[J", true)
  | 5 => ("SameKeeper$Graph", "comings", "[J", true)
  | 6 => ("SameKeeper$Graph", "gains", "[J", true)
  | 7 => ("SameKeeper$Graph", "days", "I", false)
  | _ => ("SameKeeper$Graph", "start", "I", false)
def tyX1 : Nat → FieldType := fun k => match k with
  | 0 => .object "SameKeeper$Table"
  | 1 => .array .int
  | 2 => .array .int
  | 3 => .array .int
  | 4 => .array .long
  | 5 => .array .long
  | 6 => .array .long
  | 7 => .int
  | _ => .int
theorem nmX1 : ∀ a, a < 9 → ∀ b, b < 9 → a ≠ b → (TX1 a).2.1 ≠ (TX1 b).2.1 := by decide +kernel
theorem tyX1_ok : ∀ k, k < 9 → parseFieldDescriptor (TX1 k).2.2.1 = some (tyX1 k) := by decide +kernel
abbrev cX1_init : ByteArray := prog_3_method_1_code
def yX1_init : MethodName := ⟨RX1, "<init>", "(LSameKeeper$Table;)V"⟩
abbrev cX1_lay : ByteArray := prog_3_method_2_code
def yX1_lay : MethodName := ⟨RX1, "lay", "(LSameKeeper$State;II)V"⟩
abbrev cX1_allowOnly : ByteArray := prog_3_method_3_code
def yX1_allowOnly : MethodName := ⟨RX1, "allowOnly", "(II)V"⟩
abbrev cX1_settle : ByteArray := prog_3_method_4_code
def yX1_settle : MethodName := ⟨RX1, "settle", "()Z"⟩
abbrev cX1_next : ByteArray := prog_3_method_5_code
def yX1_next : MethodName := ⟨RX1, "next", "(II)I"⟩
abbrev cX1_moodsOf : ByteArray := prog_3_method_6_code
def yX1_moodsOf : MethodName := ⟨RX1, "moodsOf", "(I)I"⟩
abbrev cX1_takeFirst : ByteArray := prog_3_method_7_code
def yX1_takeFirst : MethodName := ⟨RX1, "takeFirst", "([I)V"⟩
abbrev cX1_countWays : ByteArray := prog_3_method_8_code
def yX1_countWays : MethodName := ⟨RX1, "countWays", "()J"⟩
abbrev cX1_countComings : ByteArray := prog_3_method_9_code
def yX1_countComings : MethodName := ⟨RX1, "countComings", "()V"⟩
abbrev cX1_timesOf : ByteArray := prog_3_method_10_code
def yX1_timesOf : MethodName := ⟨RX1, "timesOf", "(II)J"⟩
abbrev cX1_mostLeft : ByteArray := prog_3_method_11_code
def yX1_mostLeft : MethodName := ⟨RX1, "mostLeft", "(I)J"⟩
abbrev cX1_takeNumbered : ByteArray := prog_3_method_12_code
def yX1_takeNumbered : MethodName := ⟨RX1, "takeNumbered", "(J[I)V"⟩
abbrev cX1_bestPay : ByteArray := prog_3_method_13_code
def yX1_bestPay : MethodName := ⟨RX1, "bestPay", "()J"⟩
abbrev cX1_gainBy : ByteArray := prog_3_method_14_code
def yX1_gainBy : MethodName := ⟨RX1, "gainBy", "(II)J"⟩
abbrev cX1_takeBestPaid : ByteArray := prog_3_method_15_code
def yX1_takeBestPaid : MethodName := ⟨RX1, "takeBestPaid", "([I)V"⟩
def RX2 : String := "SameKeeper$Lock"
def TX2 : u_T := fun k => match k with
  | 0 => ("SameKeeper$Lock", "code", "LSameKeeper$Code;", true)
  | 1 => ("SameKeeper$Lock", "barge", "[I", true)
  | 2 => ("SameKeeper$Lock", "wet", "[I", true)
  | 3 => ("SameKeeper$Lock", "from", "[I", true)
  | 4 => ("SameKeeper$Lock", "to", "[I", true)
  | 5 => ("SameKeeper$Lock", "days", "I", false)
  | 6 => ("SameKeeper$Lock", "mood", "I", false)
  | 7 => ("SameKeeper$Lock", "mute", "I", false)
  | 8 => ("SameKeeper$Lock", "rain", "I", false)
  | _ => ("SameKeeper$Lock", "statements", "I", false)
def tyX2 : Nat → FieldType := fun k => match k with
  | 0 => .object "SameKeeper$Code"
  | 1 => .array .int
  | 2 => .array .int
  | 3 => .array .int
  | 4 => .array .int
  | 5 => .int
  | 6 => .int
  | 7 => .int
  | 8 => .int
  | _ => .int
theorem nmX2 : ∀ a, a < 10 → ∀ b, b < 10 → a ≠ b → (TX2 a).2.1 ≠ (TX2 b).2.1 := by decide +kernel
theorem tyX2_ok : ∀ k, k < 10 → parseFieldDescriptor (TX2 k).2.2.1 = some (tyX2 k) := by decide +kernel
abbrev cX2_init : ByteArray := prog_4_method_1_code
def yX2_init : MethodName := ⟨RX2, "<init>", "()V"⟩
abbrev cX2_clear : ByteArray := prog_4_method_2_code
def yX2_clear : MethodName := ⟨RX2, "clear", "()V"⟩
abbrev cX2_hasSum : ByteArray := prog_4_method_3_code
def yX2_hasSum : MethodName := ⟨RX2, "hasSum", "(I)Z"⟩
abbrev cX2_beginSum : ByteArray := prog_4_method_4_code
def yX2_beginSum : MethodName := ⟨RX2, "beginSum", "(I)V"⟩
abbrev cX2_endSum : ByteArray := prog_4_method_5_code
def yX2_endSum : MethodName := ⟨RX2, "endSum", "(I)V"⟩
abbrev cX2_addUntold : ByteArray := prog_4_method_6_code
def yX2_addUntold : MethodName := ⟨RX2, "addUntold", "()V"⟩
def RX3 : String := "SameKeeper$LockText"
def TX3 : u_T := fun k => match k with
  | 0 => ("SameKeeper$LockText", "reader", "LSameKeeper$Reader;", true)
  | 1 => ("SameKeeper$LockText", "ofMood", "LSameKeeper$Sums;", true)
  | _ => ("SameKeeper$LockText", "ofDeed", "LSameKeeper$Sums;", true)
def tyX3 : Nat → FieldType := fun k => match k with
  | 0 => .object "SameKeeper$Reader"
  | 1 => .object "SameKeeper$Sums"
  | _ => .object "SameKeeper$Sums"
theorem nmX3 : ∀ a, a < 3 → ∀ b, b < 3 → a ≠ b → (TX3 a).2.1 ≠ (TX3 b).2.1 := by decide +kernel
theorem tyX3_ok : ∀ k, k < 3 → parseFieldDescriptor (TX3 k).2.2.1 = some (tyX3 k) := by decide +kernel
abbrev cX3_init : ByteArray := prog_5_method_1_code
def yX3_init : MethodName := ⟨RX3, "<init>", "(LSameKeeper$Reader;)V"⟩
abbrev cX3_read : ByteArray := prog_5_method_2_code
def yX3_read : MethodName := ⟨RX3, "read", "(LSameKeeper$Lock;)V"⟩
abbrev cX3_readOpening : ByteArray := prog_5_method_3_code
def yX3_readOpening : MethodName := ⟨RX3, "readOpening", "(LSameKeeper$Lock;)V"⟩
abbrev cX3_readNumbers : ByteArray := prog_5_method_4_code
def yX3_readNumbers : MethodName := ⟨RX3, "readNumbers", "(LSameKeeper$Lock;)V"⟩
abbrev cX3_readSumOf : ByteArray := prog_5_method_5_code
def yX3_readSumOf : MethodName := ⟨RX3, "readSumOf", "(LSameKeeper$Lock;ILSameKeeper$Sums;)V"⟩
abbrev cX3_readAmount : ByteArray := prog_5_method_6_code
def yX3_readAmount : MethodName := ⟨RX3, "readAmount", "(LSameKeeper$Lock;[I)V"⟩
abbrev cX3_readMute : ByteArray := prog_5_method_7_code
def yX3_readMute : MethodName := ⟨RX3, "readMute", "(LSameKeeper$Lock;)V"⟩
def RX4 : String := "SameKeeper$Past"
def TX4 : u_T := fun k => match k with
  | 0 => ("SameKeeper$Past", "states", "[LSameKeeper$State;", true)
  | 1 => ("SameKeeper$Past", "acts", "I", false)
  | 2 => ("SameKeeper$Past", "weekOf", "[I", true)
  | 3 => ("SameKeeper$Past", "agreedOf", "[J", true)
  | _ => ("SameKeeper$Past", "moodOf", "[I", true)
def tyX4 : Nat → FieldType := fun k => match k with
  | 0 => .array (.object "SameKeeper$State")
  | 1 => .int
  | 2 => .array .int
  | 3 => .array .long
  | _ => .array .int
theorem nmX4 : ∀ a, a < 5 → ∀ b, b < 5 → a ≠ b → (TX4 a).2.1 ≠ (TX4 b).2.1 := by decide +kernel
theorem tyX4_ok : ∀ k, k < 5 → parseFieldDescriptor (TX4 k).2.2.1 = some (tyX4 k) := by decide +kernel
abbrev cX4_init : ByteArray := prog_6_method_1_code
def yX4_init : MethodName := ⟨RX4, "<init>", "()V"⟩
abbrev cX4_forget : ByteArray := prog_6_method_2_code
def yX4_forget : MethodName := ⟨RX4, "forget", "()V"⟩
abbrev cX4_save : ByteArray := prog_6_method_3_code
def yX4_save : MethodName := ⟨RX4, "save", "(LSameKeeper$State;)V"⟩
abbrev cX4_restore : ByteArray := prog_6_method_4_code
def yX4_restore : MethodName := ⟨RX4, "restore", "(LSameKeeper$State;)Z"⟩
abbrev cX4_keep : ByteArray := prog_6_method_5_code
def yX4_keep : MethodName := ⟨RX4, "keep", "(LSameKeeper$State;JI)V"⟩
abbrev cX4_toldOf : ByteArray := prog_6_method_6_code
def yX4_toldOf : MethodName := ⟨RX4, "toldOf", "(I)I"⟩
abbrev cX4_ofKept : ByteArray := prog_6_method_7_code
def yX4_ofKept : MethodName := ⟨RX4, "ofKept", "(II)J"⟩
def RX5 : String := "SameKeeper$Question"
def TX5 : u_T := fun k => match k with
  | 0 => ("SameKeeper$Question", "reader", "LSameKeeper$Reader;", true)
  | 1 => ("SameKeeper$Question", "sums", "LSameKeeper$Sums;", true)
  | 2 => ("SameKeeper$Question", "code", "LSameKeeper$Code;", true)
  | _ => ("SameKeeper$Question", "verb", "I", false)
def tyX5 : Nat → FieldType := fun k => match k with
  | 0 => .object "SameKeeper$Reader"
  | 1 => .object "SameKeeper$Sums"
  | 2 => .object "SameKeeper$Code"
  | _ => .int
theorem nmX5 : ∀ a, a < 4 → ∀ b, b < 4 → a ≠ b → (TX5 a).2.1 ≠ (TX5 b).2.1 := by decide +kernel
theorem tyX5_ok : ∀ k, k < 4 → parseFieldDescriptor (TX5 k).2.2.1 = some (tyX5 k) := by decide +kernel
abbrev cX5_init : ByteArray := prog_7_method_1_code
def yX5_init : MethodName := ⟨RX5, "<init>", "(LSameKeeper$Reader;)V"⟩
abbrev cX5_read : ByteArray := prog_7_method_2_code
def yX5_read : MethodName := ⟨RX5, "read", "()V"⟩
abbrev cX5_readTest : ByteArray := prog_7_method_3_code
def yX5_readTest : MethodName := ⟨RX5, "readTest", "()V"⟩
abbrev cX5_readBoth : ByteArray := prog_7_method_4_code
def yX5_readBoth : MethodName := ⟨RX5, "readBoth", "()V"⟩
abbrev cX5_readFact : ByteArray := prog_7_method_5_code
def yX5_readFact : MethodName := ⟨RX5, "readFact", "()V"⟩
abbrev cX5_stepOf : ByteArray := prog_7_method_6_code
def yX5_stepOf : MethodName := ⟨RX5, "stepOf", "(I)I"⟩
abbrev cX5_answer : ByteArray := prog_7_method_7_code
def yX5_answer : MethodName := ⟨RX5, "answer", "(LSameKeeper$State;LSameKeeper$Graph;[I)J"⟩
abbrev cX5_isOfDays : ByteArray := prog_7_method_8_code
def yX5_isOfDays : MethodName := ⟨RX5, "isOfDays", "()Z"⟩
abbrev cX5_nameDay : ByteArray := prog_7_method_9_code
def yX5_nameDay : MethodName := ⟨RX5, "nameDay", "(LSameKeeper$State;LSameKeeper$Graph;II)V"⟩
abbrev cX5_joined : ByteArray := prog_7_method_10_code
def yX5_joined : MethodName := ⟨RX5, "joined", "(JJI)J"⟩
def RX6 : String := "SameKeeper$Reader"
def TX6 : u_T := fun k => match k with
  | 0 => ("SameKeeper$Reader", "tape", "LSameKeeper$Tape;", true)
  | 1 => ("SameKeeper$Reader", "at", "I", false)
  | 2 => ("SameKeeper$Reader", "value", "I", false)
  | 3 => ("SameKeeper$Reader", "open", "I", false)
  | 4 => ("SameKeeper$Reader", "token", "I", false)
  | 5 => ("SameKeeper$Reader", "start", "I", false)
  | 6 => ("SameKeeper$Reader", "fault", "I", false)
  | _ => ("SameKeeper$Reader", "place", "I", false)
def tyX6 : Nat → FieldType := fun k => match k with
  | 0 => .object "SameKeeper$Tape"
  | 1 => .int
  | 2 => .int
  | 3 => .int
  | 4 => .int
  | 5 => .int
  | 6 => .int
  | _ => .int
theorem nmX6 : ∀ a, a < 8 → ∀ b, b < 8 → a ≠ b → (TX6 a).2.1 ≠ (TX6 b).2.1 := by decide +kernel
theorem tyX6_ok : ∀ k, k < 8 → parseFieldDescriptor (TX6 k).2.2.1 = some (tyX6 k) := by decide +kernel
abbrev cX6_init : ByteArray := prog_8_method_1_code
def yX6_init : MethodName := ⟨RX6, "<init>", "(LSameKeeper$Tape;)V"⟩
abbrev cX6_begin : ByteArray := prog_8_method_2_code
def yX6_begin : MethodName := ⟨RX6, "begin", "()V"⟩
abbrev cX6_fail : ByteArray := prog_8_method_3_code
def yX6_fail : MethodName := ⟨RX6, "fail", "(II)V"⟩
abbrev cX6_failHere : ByteArray := prog_8_method_4_code
def yX6_failHere : MethodName := ⟨RX6, "failHere", "()V"⟩
abbrev cX6_step : ByteArray := prog_8_method_5_code
def yX6_step : MethodName := ⟨RX6, "step", "()V"⟩
abbrev cX6_readWord : ByteArray := prog_8_method_6_code
def yX6_readWord : MethodName := ⟨RX6, "readWord", "()V"⟩
abbrev cX6_readNumber : ByteArray := prog_8_method_7_code
def yX6_readNumber : MethodName := ⟨RX6, "readNumber", "()V"⟩
abbrev cX6_takes : ByteArray := prog_8_method_8_code
def yX6_takes : MethodName := ⟨RX6, "takes", "(I)Z"⟩
abbrev cX6_needs : ByteArray := prog_8_method_9_code
def yX6_needs : MethodName := ⟨RX6, "needs", "(I)V"⟩
abbrev cX6_takeNumber : ByteArray := prog_8_method_10_code
def yX6_takeNumber : MethodName := ⟨RX6, "takeNumber", "(II)I"⟩
abbrev cX6_opens : ByteArray := prog_8_method_11_code
def yX6_opens : MethodName := ⟨RX6, "opens", "(I)Z"⟩
abbrev cX6_shuts : ByteArray := prog_8_method_12_code
def yX6_shuts : MethodName := ⟨RX6, "shuts", "()V"⟩
def RX7 : String := "SameKeeper$State"
def TX7 : u_T := fun k => match k with
  | 0 => ("SameKeeper$State", "barge", "[I", true)
  | 1 => ("SameKeeper$State", "wet", "[I", true)
  | 2 => ("SameKeeper$State", "days", "I", false)
  | 3 => ("SameKeeper$State", "week", "I", false)
  | 4 => ("SameKeeper$State", "mood", "I", false)
  | 5 => ("SameKeeper$State", "mute", "I", false)
  | _ => ("SameKeeper$State", "kept", "I", false)
def tyX7 : Nat → FieldType := fun k => match k with
  | 0 => .array .int
  | 1 => .array .int
  | 2 => .int
  | 3 => .int
  | 4 => .int
  | 5 => .int
  | _ => .int
theorem nmX7 : ∀ a, a < 7 → ∀ b, b < 7 → a ≠ b → (TX7 a).2.1 ≠ (TX7 b).2.1 := by decide +kernel
theorem tyX7_ok : ∀ k, k < 7 → parseFieldDescriptor (TX7 k).2.2.1 = some (tyX7 k) := by decide +kernel
abbrev cX7_init : ByteArray := prog_9_method_1_code
def yX7_init : MethodName := ⟨RX7, "<init>", "()V"⟩
abbrev cX7_begin : ByteArray := prog_9_method_2_code
def yX7_begin : MethodName := ⟨RX7, "begin", "(LSameKeeper$Lock;)V"⟩
abbrev cX7_copy : ByteArray := prog_9_method_3_code
def yX7_copy : MethodName := ⟨RX7, "copy", "(LSameKeeper$State;)V"⟩
abbrev cX7_isMute : ByteArray := prog_9_method_4_code
def yX7_isMute : MethodName := ⟨RX7, "isMute", "(I)Z"⟩
abbrev cX7_amount : ByteArray := prog_9_method_5_code
def yX7_amount : MethodName := ⟨RX7, "amount", "(II)I"⟩
abbrev cX7_put : ByteArray := prog_9_method_6_code
def yX7_put : MethodName := ⟨RX7, "put", "(III)V"⟩
def RX8 : String := "SameKeeper$Sums"
def TX8 : u_T := fun k => match k with
  | 0 => ("SameKeeper$Sums", "reader", "LSameKeeper$Reader;", true)
  | _ => ("SameKeeper$Sums", "kind", "I", true)
def tyX8 : Nat → FieldType := fun k => match k with
  | 0 => .object "SameKeeper$Reader"
  | _ => .int
theorem nmX8 : ∀ a, a < 2 → ∀ b, b < 2 → a ≠ b → (TX8 a).2.1 ≠ (TX8 b).2.1 := by decide +kernel
theorem tyX8_ok : ∀ k, k < 2 → parseFieldDescriptor (TX8 k).2.2.1 = some (tyX8 k) := by decide +kernel
abbrev cX8_init : ByteArray := prog_10_method_1_code
def yX8_init : MethodName := ⟨RX8, "<init>", "(LSameKeeper$Reader;I)V"⟩
abbrev cX8_read : ByteArray := prog_10_method_2_code
def yX8_read : MethodName := ⟨RX8, "read", "(LSameKeeper$Code;)V"⟩
abbrev cX8_readSum : ByteArray := prog_10_method_3_code
def yX8_readSum : MethodName := ⟨RX8, "readSum", "(LSameKeeper$Code;)V"⟩
abbrev cX8_readProduct : ByteArray := prog_10_method_4_code
def yX8_readProduct : MethodName := ⟨RX8, "readProduct", "(LSameKeeper$Code;)V"⟩
abbrev cX8_readPart : ByteArray := prog_10_method_5_code
def yX8_readPart : MethodName := ⟨RX8, "readPart", "(LSameKeeper$Code;)V"⟩
abbrev cX8_readPair : ByteArray := prog_10_method_6_code
def yX8_readPair : MethodName := ⟨RX8, "readPair", "(LSameKeeper$Code;I)V"⟩
abbrev cX8_nameInLock : ByteArray := prog_10_method_7_code
def yX8_nameInLock : MethodName := ⟨RX8, "nameInLock", "(I)I"⟩
abbrev cX8_nameInQuestion : ByteArray := prog_10_method_8_code
def yX8_nameInQuestion : MethodName := ⟨RX8, "nameInQuestion", "(I)I"⟩
def RX9 : String := "SameKeeper$Table"
def TX9 : u_T := fun k => match k with
  | 0 => ("SameKeeper$Table", "said", "[I", true)
  | 1 => ("SameKeeper$Table", "turned", "[I", true)
  | 2 => ("SameKeeper$Table", "alone", "[I", true)
  | 3 => ("SameKeeper$Table", "open", "[I", true)
  | 4 => ("SameKeeper$Table", "wages", "[J", true)
  | _ => ("SameKeeper$Table", "keys", "[I", true)
def tyX9 : Nat → FieldType := fun k => match k with
  | 0 => .array .int
  | 1 => .array .int
  | 2 => .array .int
  | 3 => .array .int
  | 4 => .array .long
  | _ => .array .int
theorem nmX9 : ∀ a, a < 6 → ∀ b, b < 6 → a ≠ b → (TX9 a).2.1 ≠ (TX9 b).2.1 := by decide +kernel
theorem tyX9_ok : ∀ k, k < 6 → parseFieldDescriptor (TX9 k).2.2.1 = some (tyX9 k) := by decide +kernel
abbrev cX9_init : ByteArray := prog_11_method_1_code
def yX9_init : MethodName := ⟨RX9, "<init>", "()V"⟩
abbrev cX9_forget : ByteArray := prog_11_method_2_code
def yX9_forget : MethodName := ⟨RX9, "forget", "()V"⟩
abbrev cX9_fit : ByteArray := prog_11_method_3_code
def yX9_fit : MethodName := ⟨RX9, "fit", "(LSameKeeper$Lock;LSameKeeper$State;)V"⟩
abbrev cX9_nameDay : ByteArray := prog_11_method_4_code
def yX9_nameDay : MethodName := ⟨RX9, "nameDay", "(LSameKeeper$Code;LSameKeeper$State;I)V"⟩
abbrev cX9_fillWords : ByteArray := prog_11_method_5_code
def yX9_fillWords : MethodName := ⟨RX9, "fillWords", "(LSameKeeper$Lock;I)V"⟩
abbrev cX9_fillDeeds : ByteArray := prog_11_method_6_code
def yX9_fillDeeds : MethodName := ⟨RX9, "fillDeeds", "(LSameKeeper$Lock;I)V"⟩
abbrev cX9_moodsBehind : ByteArray := prog_11_method_7_code
def yX9_moodsBehind : MethodName := ⟨RX9, "moodsBehind", "(III)I"⟩
abbrev cX9_moodsThatSay : ByteArray := prog_11_method_8_code
def yX9_moodsThatSay : MethodName := ⟨RX9, "moodsThatSay", "(II)I"⟩
def RX10 : String := "SameKeeper$Tape"
def TX10 : u_T := fun k => match k with
  | 0 => ("SameKeeper$Tape", "bytes", "[I", true)
  | _ => ("SameKeeper$Tape", "length", "I", false)
def tyX10 : Nat → FieldType := fun k => match k with
  | 0 => .array .int
  | _ => .int
theorem nmX10 : ∀ a, a < 2 → ∀ b, b < 2 → a ≠ b → (TX10 a).2.1 ≠ (TX10 b).2.1 := by decide +kernel
theorem tyX10_ok : ∀ k, k < 2 → parseFieldDescriptor (TX10 k).2.2.1 = some (tyX10 k) := by decide +kernel
abbrev cX10_init : ByteArray := prog_12_method_1_code
def yX10_init : MethodName := ⟨RX10, "<init>", "(I)V"⟩
abbrev cX10_add : ByteArray := prog_12_method_2_code
def yX10_add : MethodName := ⟨RX10, "add", "(I)V"⟩
abbrev cX10_addNumber : ByteArray := prog_12_method_3_code
def yX10_addNumber : MethodName := ⟨RX10, "addNumber", "(I)V"⟩
abbrev cX10_left : ByteArray := prog_12_method_4_code
def yX10_left : MethodName := ⟨RX10, "left", "(I)I"⟩
abbrev cX10_checkOf : ByteArray := prog_12_method_5_code
def yX10_checkOf : MethodName := ⟨RX10, "checkOf", "(I)I"⟩
def RX11 : String := "SameKeeper"
def TX11 : u_T := fun k => match k with
  | 0 => ("SameKeeper", "tape", "LSameKeeper$Tape;", true)
  | 1 => ("SameKeeper", "picture", "LSameKeeper$Tape;", true)
  | 2 => ("SameKeeper", "reader", "LSameKeeper$Reader;", true)
  | 3 => ("SameKeeper", "lockText", "LSameKeeper$LockText;", true)
  | 4 => ("SameKeeper", "question", "LSameKeeper$Question;", true)
  | 5 => ("SameKeeper", "held", "LSameKeeper$Lock;", false)
  | 6 => ("SameKeeper", "draft", "LSameKeeper$Lock;", false)
  | 7 => ("SameKeeper", "now", "LSameKeeper$State;", true)
  | 8 => ("SameKeeper", "trial", "LSameKeeper$State;", true)
  | 9 => ("SameKeeper", "past", "LSameKeeper$Past;", true)
  | 10 => ("SameKeeper", "table", "LSameKeeper$Table;", true)
  | 11 => ("SameKeeper", "graph", "LSameKeeper$Graph;", true)
  | 12 => ("SameKeeper", "row", "[I", true)
  | 13 => ("SameKeeper", "otherRow", "[I", true)
  | 14 => ("SameKeeper", "heardRows", "[I", true)
  | 15 => ("SameKeeper", "heardCount", "I", false)
  | 16 => ("SameKeeper", "refused", "[I", true)
  | _ => ("SameKeeper", "drawn", "J", false)
def tyX11 : Nat → FieldType := fun k => match k with
  | 0 => .object "SameKeeper$Tape"
  | 1 => .object "SameKeeper$Tape"
  | 2 => .object "SameKeeper$Reader"
  | 3 => .object "SameKeeper$LockText"
  | 4 => .object "SameKeeper$Question"
  | 5 => .object "SameKeeper$Lock"
  | 6 => .object "SameKeeper$Lock"
  | 7 => .object "SameKeeper$State"
  | 8 => .object "SameKeeper$State"
  | 9 => .object "SameKeeper$Past"
  | 10 => .object "SameKeeper$Table"
  | 11 => .object "SameKeeper$Graph"
  | 12 => .array .int
  | 13 => .array .int
  | 14 => .array .int
  | 15 => .int
  | 16 => .array .int
  | _ => .long
theorem nmX11 : ∀ a, a < 18 → ∀ b, b < 18 → a ≠ b → (TX11 a).2.1 ≠ (TX11 b).2.1 := by decide +kernel
theorem tyX11_ok : ∀ k, k < 18 → parseFieldDescriptor (TX11 k).2.2.1 = some (tyX11 k) := by decide +kernel
abbrev cX11_init : ByteArray := prog_1_method_1_code
def yX11_init : MethodName := ⟨RX11, "<init>", "()V"⟩
abbrev cX11_feed : ByteArray := prog_1_method_2_code
def yX11_feed : MethodName := ⟨RX11, "feed", "(IIIII)I"⟩
abbrev cX11_end : ByteArray := prog_1_method_3_code
def yX11_end : MethodName := ⟨RX11, "end", "(I)Z"⟩
abbrev cX11_lock : ByteArray := prog_1_method_4_code
def yX11_lock : MethodName := ⟨RX11, "lock", "()I"⟩
abbrev cX11_fault : ByteArray := prog_1_method_5_code
def yX11_fault : MethodName := ⟨RX11, "fault", "(I)I"⟩
abbrev cX11_has : ByteArray := prog_1_method_6_code
def yX11_has : MethodName := ⟨RX11, "has", "(I)I"⟩
abbrev cX11_day : ByteArray := prog_1_method_7_code
def yX11_day : MethodName := ⟨RX11, "day", "(II)I"⟩
abbrev cX11_told : ByteArray := prog_1_method_8_code
def yX11_told : MethodName := ⟨RX11, "told", "(II)I"⟩
abbrev cX11_does : ByteArray := prog_1_method_9_code
def yX11_does : MethodName := ⟨RX11, "does", "(III)I"⟩
abbrev cX11_kept : ByteArray := prog_1_method_10_code
def yX11_kept : MethodName := ⟨RX11, "kept", "(II)J"⟩
abbrev cX11_weeks : ByteArray := prog_1_method_11_code
def yX11_weeks : MethodName := ⟨RX11, "weeks", "()J"⟩
abbrev cX11_mood : ByteArray := prog_1_method_12_code
def yX11_mood : MethodName := ⟨RX11, "mood", "(II)I"⟩
abbrev cX11_many : ByteArray := prog_1_method_13_code
def yX11_many : MethodName := ⟨RX11, "many", "(II)J"⟩
abbrev cX11_hushed : ByteArray := prog_1_method_14_code
def yX11_hushed : MethodName := ⟨RX11, "hushed", "()I"⟩
abbrev cX11_wished : ByteArray := prog_1_method_15_code
def yX11_wished : MethodName := ⟨RX11, "wished", "(II)I"⟩
abbrev cX11_lies : ByteArray := prog_1_method_16_code
def yX11_lies : MethodName := ⟨RX11, "lies", "()I"⟩
abbrev cX11_later : ByteArray := prog_1_method_17_code
def yX11_later : MethodName := ⟨RX11, "later", "(I)I"⟩
abbrev cX11_ring : ByteArray := prog_1_method_18_code
def yX11_ring : MethodName := ⟨RX11, "ring", "()I"⟩
abbrev cX11_frees : ByteArray := prog_1_method_19_code
def yX11_frees : MethodName := ⟨RX11, "frees", "(II)I"⟩
abbrev cX11_pay : ByteArray := prog_1_method_20_code
def yX11_pay : MethodName := ⟨RX11, "pay", "()J"⟩
abbrev cX11_paid : ByteArray := prog_1_method_21_code
def yX11_paid : MethodName := ⟨RX11, "paid", "(I)I"⟩
abbrev cX11_rest : ByteArray := prog_1_method_22_code
def yX11_rest : MethodName := ⟨RX11, "rest", "()I"⟩
abbrev cX11_unlike : ByteArray := prog_1_method_23_code
def yX11_unlike : MethodName := ⟨RX11, "unlike", "(II)I"⟩
abbrev cX11_known : ByteArray := prog_1_method_24_code
def yX11_known : MethodName := ⟨RX11, "known", "(III)I"⟩
abbrev cX11_sure : ByteArray := prog_1_method_25_code
def yX11_sure : MethodName := ⟨RX11, "sure", "(II)I"⟩
abbrev cX11_hear : ByteArray := prog_1_method_26_code
def yX11_hear : MethodName := ⟨RX11, "hear", "()I"⟩
abbrev cX11_heard : ByteArray := prog_1_method_27_code
def yX11_heard : MethodName := ⟨RX11, "heard", "()J"⟩
abbrev cX11_tells : ByteArray := prog_1_method_28_code
def yX11_tells : MethodName := ⟨RX11, "tells", "(I)J"⟩
abbrev cX11_same : ByteArray := prog_1_method_29_code
def yX11_same : MethodName := ⟨RX11, "same", "(II)I"⟩
abbrev cX11_set : ByteArray := prog_1_method_30_code
def yX11_set : MethodName := ⟨RX11, "set", "(III)Z"⟩
abbrev cX11_mute : ByteArray := prog_1_method_31_code
def yX11_mute : MethodName := ⟨RX11, "mute", "(II)Z"⟩
abbrev cX11_go : ByteArray := prog_1_method_32_code
def yX11_go : MethodName := ⟨RX11, "go", "()I"⟩
abbrev cX11_chance : ByteArray := prog_1_method_33_code
def yX11_chance : MethodName := ⟨RX11, "chance", "(I)I"⟩
abbrev cX11_undo : ByteArray := prog_1_method_34_code
def yX11_undo : MethodName := ⟨RX11, "undo", "()Z"⟩
abbrev cX11_seed : ByteArray := prog_1_method_35_code
def yX11_seed : MethodName := ⟨RX11, "seed", "(I)Z"⟩
abbrev cX11_ask : ByteArray := prog_1_method_36_code
def yX11_ask : MethodName := ⟨RX11, "ask", "()J"⟩
abbrev cX11_image : ByteArray := prog_1_method_37_code
def yX11_image : MethodName := ⟨RX11, "image", "()I"⟩
abbrev cX11_octet : ByteArray := prog_1_method_38_code
def yX11_octet : MethodName := ⟨RX11, "octet", "(I)I"⟩
abbrev cX11_on : ByteArray := prog_1_method_39_code
def yX11_on : MethodName := ⟨RX11, "on", "()Z"⟩
abbrev cX11_status : ByteArray := prog_1_method_40_code
def yX11_status : MethodName := ⟨RX11, "status", "(I)I"⟩
abbrev cX11_refuse : ByteArray := prog_1_method_41_code
def yX11_refuse : MethodName := ⟨RX11, "refuse", "(I)I"⟩
abbrev cX11_refuseIt : ByteArray := prog_1_method_42_code
def yX11_refuseIt : MethodName := ⟨RX11, "refuseIt", "(I)Z"⟩
abbrev cX11_isLocked : ByteArray := prog_1_method_43_code
def yX11_isLocked : MethodName := ⟨RX11, "isLocked", "()Z"⟩
abbrev cX11_isDay : ByteArray := prog_1_method_44_code
def yX11_isDay : MethodName := ⟨RX11, "isDay", "(I)Z"⟩
abbrev cX11_isDigit : ByteArray := prog_1_method_45_code
def yX11_isDigit : MethodName := ⟨RX11, "isDigit", "(I)Z"⟩
abbrev cX11_isWordOf : ByteArray := prog_1_method_46_code
def yX11_isWordOf : MethodName := ⟨RX11, "isWordOf", "(II)Z"⟩
abbrev cX11_lookAt : ByteArray := prog_1_method_47_code
def yX11_lookAt : MethodName := ⟨RX11, "lookAt", "(LSameKeeper$State;)Z"⟩
abbrev cX11_lookByWord : ByteArray := prog_1_method_48_code
def yX11_lookByWord : MethodName := ⟨RX11, "lookByWord", "(II)Z"⟩
abbrev cX11_lookByHeard : ByteArray := prog_1_method_49_code
def yX11_lookByHeard : MethodName := ⟨RX11, "lookByHeard", "()Z"⟩
abbrev cX11_takeWeek : ByteArray := prog_1_method_50_code
def yX11_takeWeek : MethodName := ⟨RX11, "takeWeek", "(I[I)Z"⟩
abbrev cX11_stepAhead : ByteArray := prog_1_method_51_code
def yX11_stepAhead : MethodName := ⟨RX11, "stepAhead", "()Z"⟩
abbrev cX11_fewest : ByteArray := prog_1_method_52_code
def yX11_fewest : MethodName := ⟨RX11, "fewest", "(III)I"⟩
abbrev cX11_serves : ByteArray := prog_1_method_53_code
def yX11_serves : MethodName := ⟨RX11, "serves", "(IIII)Z"⟩
abbrev cX11_isAtRest : ByteArray := prog_1_method_54_code
def yX11_isAtRest : MethodName := ⟨RX11, "isAtRest", "(I)Z"⟩
abbrev cX11_pass : ByteArray := prog_1_method_55_code
def yX11_pass : MethodName := ⟨RX11, "pass", "(J)V"⟩
abbrev cX11_passByChance : ByteArray := prog_1_method_56_code
def yX11_passByChance : MethodName := ⟨RX11, "passByChance", "()Z"⟩
abbrev cX11_draw : ByteArray := prog_1_method_57_code
def yX11_draw : MethodName := ⟨RX11, "draw", "(J)J"⟩
abbrev cX11_tellsRows : ByteArray := prog_1_method_58_code
def yX11_tellsRows : MethodName := ⟨RX11, "tellsRows", "()Z"⟩
abbrev cX11_tellsImage : ByteArray := prog_1_method_59_code
def yX11_tellsImage : MethodName := ⟨RX11, "tellsImage", "()Z"⟩
def RX12 : String := "SameKeeperModel"
def TX12 : u_T := fun k => match k with
  | 0 => ("SameKeeperModel", "tape", "[I", true)
  | 1 => ("SameKeeperModel", "taped", "I", false)
  | 2 => ("SameKeeperModel", "at", "I", false)
  | 3 => ("SameKeeperModel", "end", "I", false)
  | 4 => ("SameKeeperModel", "ended", "I", false)
  | 5 => ("SameKeeperModel", "bad", "I", false)
  | 6 => ("SameKeeperModel", "badPlace", "I", false)
  | 7 => ("SameKeeperModel", "fault", "I", false)
  | 8 => ("SameKeeperModel", "faultPlace", "I", false)
  | 9 => ("SameKeeperModel", "refused", "[I", true)
  | 10 => ("SameKeeperModel", "numberPlace", "I", false)
  | 11 => ("SameKeeperModel", "lockWord", "[C", true)
  | 12 => ("SameKeeperModel", "fromWord", "[C", true)
  | 13 => ("SameKeeperModel", "bargeWord", "[C", true)
  | 14 => ("SameKeeperModel", "wetWord", "[C", true)
  | 15 => ("SameKeeperModel", "muteWord", "[C", true)
  | 16 => ("SameKeeperModel", "saysWord", "[C", true)
  | 17 => ("SameKeeperModel", "doesWord", "[C", true)
  | 18 => ("SameKeeperModel", "wageWord", "[C", true)
  | 19 => ("SameKeeperModel", "rainWord", "[C", true)
  | 20 => ("SameKeeperModel", "lock0", "[I", true)
  | 21 => ("SameKeeperModel", "days0", "[I", true)
  | 22 => ("SameKeeperModel", "rainTold", "I", false)
  | 23 => ("SameKeeperModel", "rain", "I", false)
  | 24 => ("SameKeeperModel", "codeFrom", "[I", true)
  | 25 => ("SameKeeperModel", "codeEnd", "[I", true)
  | 26 => ("SameKeeperModel", "codes", "[I", true)
  | 27 => ("SameKeeperModel", "coded", "I", false)
  | 28 => ("SameKeeperModel", "statements", "I", false)
  | 29 => ("SameKeeperModel", "isLock", "Z", false)
  | 30 => ("SameKeeperModel", "textKind", "I", false)
  | 31 => ("SameKeeperModel", "now", "[I", true)
  | 32 => ("SameKeeperModel", "aside", "[I", true)
  | 33 => ("SameKeeperModel", "askMood", "I", false)
  | 34 => ("SameKeeperModel", "askTold", "I", false)
  | 35 => ("SameKeeperModel", "askAlone", "I", false)
  | 36 => ("SameKeeperModel", "withWord", "[Z", true)
  | 37 => ("SameKeeperModel", "without", "[Z", true)
  | 38 => ("SameKeeperModel", "words", "[I", true)
  | 39 => ("SameKeeperModel", "muteToo", "I", false)
  | 40 => ("SameKeeperModel", "byHeard", "Z", false)
  | 41 => ("SameKeeperModel", "wordDay", "I", false)
  | 42 => ("SameKeeperModel", "wordTold", "I", false)
  | 43 => ("SameKeeperModel", "behind", "[J", true)
  | 44 => ("SameKeeperModel", "before", "[J", true)
  | 45 => ("SameKeeperModel", "ways", "J", false)
  | 46 => ("SameKeeperModel", "path", "[I", true)
  | 47 => ("SameKeeperModel", "isThought", "Z", false)
  | 48 => ("SameKeeperModel", "pays", "[J", true)
  | 49 => ("SameKeeperModel", "wages", "[J", true)
  | 50 => ("SameKeeperModel", "agrees0", "[Z", true)
  | 51 => ("SameKeeperModel", "other0", "[I", true)
  | 52 => ("SameKeeperModel", "rowMany", "I", false)
  | 53 => ("SameKeeperModel", "rows", "[I", true)
  | 54 => ("SameKeeperModel", "kept0", "[I", true)
  | 55 => ("SameKeeperModel", "undoable", "I", false)
  | 56 => ("SameKeeperModel", "newest", "I", false)
  | 57 => ("SameKeeperModel", "seeded", "J", false)
  | 58 => ("SameKeeperModel", "firstAsked", "[C", true)
  | 59 => ("SameKeeperModel", "lastAsked", "[C", true)
  | 60 => ("SameKeeperModel", "oftenAsked", "[C", true)
  | 61 => ("SameKeeperModel", "totalAsked", "[C", true)
  | 62 => ("SameKeeperModel", "mostAsked", "[C", true)
  | 63 => ("SameKeeperModel", "leastAsked", "[C", true)
  | 64 => ("SameKeeperModel", "notAsked", "[C", true)
  | 65 => ("SameKeeperModel", "andAsked", "[C", true)
  | 66 => ("SameKeeperModel", "orAsked", "[C", true)
  | 67 => ("SameKeeperModel", "allAsked", "[C", true)
  | 68 => ("SameKeeperModel", "minAsked", "[C", true)
  | 69 => ("SameKeeperModel", "maxAsked", "[C", true)
  | 70 => ("SameKeeperModel", "moodAsked", "[C", true)
  | 71 => ("SameKeeperModel", "bargeAsked", "[C", true)
  | 72 => ("SameKeeperModel", "wetAsked", "[C", true)
  | 73 => ("SameKeeperModel", "dayAsked", "[C", true)
  | 74 => ("SameKeeperModel", "weekAsked", "[C", true)
  | 75 => ("SameKeeperModel", "toldAsked", "[C", true)
  | 76 => ("SameKeeperModel", "aloneAsked", "[C", true)
  | 77 => ("SameKeeperModel", "numberAsked", "[C", true)
  | 78 => ("SameKeeperModel", "muteAsked", "[C", true)
  | 79 => ("SameKeeperModel", "weeksAsked", "[C", true)
  | 80 => ("SameKeeperModel", "qCodes", "[I", true)
  | 81 => ("SameKeeperModel", "qCoded", "I", false)
  | 82 => ("SameKeeperModel", "qWait", "[I", true)
  | 83 => ("SameKeeperModel", "qWaits", "I", false)
  | 84 => ("SameKeeperModel", "qOpened", "I", false)
  | 85 => ("SameKeeperModel", "qBase", "I", false)
  | 86 => ("SameKeeperModel", "qPile", "[J", true)
  | 87 => ("SameKeeperModel", "qPiled", "I", false)
  | 88 => ("SameKeeperModel", "qAnswer", "J", false)
  | 89 => ("SameKeeperModel", "qIsNew", "Z", false)
  | 90 => ("SameKeeperModel", "octet", "[I", true)
  | _ => ("SameKeeperModel", "octets", "I", false)
def tyX12 : Nat → FieldType := fun k => match k with
  | 0 => .array .int
  | 1 => .int
  | 2 => .int
  | 3 => .int
  | 4 => .int
  | 5 => .int
  | 6 => .int
  | 7 => .int
  | 8 => .int
  | 9 => .array .int
  | 10 => .int
  | 11 => .array .char
  | 12 => .array .char
  | 13 => .array .char
  | 14 => .array .char
  | 15 => .array .char
  | 16 => .array .char
  | 17 => .array .char
  | 18 => .array .char
  | 19 => .array .char
  | 20 => .array .int
  | 21 => .array .int
  | 22 => .int
  | 23 => .int
  | 24 => .array .int
  | 25 => .array .int
  | 26 => .array .int
  | 27 => .int
  | 28 => .int
  | 29 => .boolean
  | 30 => .int
  | 31 => .array .int
  | 32 => .array .int
  | 33 => .int
  | 34 => .int
  | 35 => .int
  | 36 => .array .boolean
  | 37 => .array .boolean
  | 38 => .array .int
  | 39 => .int
  | 40 => .boolean
  | 41 => .int
  | 42 => .int
  | 43 => .array .long
  | 44 => .array .long
  | 45 => .long
  | 46 => .array .int
  | 47 => .boolean
  | 48 => .array .long
  | 49 => .array .long
  | 50 => .array .boolean
  | 51 => .array .int
  | 52 => .int
  | 53 => .array .int
  | 54 => .array .int
  | 55 => .int
  | 56 => .int
  | 57 => .long
  | 58 => .array .char
  | 59 => .array .char
  | 60 => .array .char
  | 61 => .array .char
  | 62 => .array .char
  | 63 => .array .char
  | 64 => .array .char
  | 65 => .array .char
  | 66 => .array .char
  | 67 => .array .char
  | 68 => .array .char
  | 69 => .array .char
  | 70 => .array .char
  | 71 => .array .char
  | 72 => .array .char
  | 73 => .array .char
  | 74 => .array .char
  | 75 => .array .char
  | 76 => .array .char
  | 77 => .array .char
  | 78 => .array .char
  | 79 => .array .char
  | 80 => .array .int
  | 81 => .int
  | 82 => .array .int
  | 83 => .int
  | 84 => .int
  | 85 => .int
  | 86 => .array .long
  | 87 => .int
  | 88 => .long
  | 89 => .boolean
  | 90 => .array .int
  | _ => .int
theorem nmX12 : ∀ a, a < 92 → ∀ b, b < 92 → a ≠ b → (TX12 a).2.1 ≠ (TX12 b).2.1 := by decide +kernel
theorem tyX12_ok : ∀ k, k < 92 → parseFieldDescriptor (TX12 k).2.2.1 = some (tyX12 k) := by decide +kernel
abbrev cX12_init : ByteArray := prog_14_method_1_code
def yX12_init : MethodName := ⟨RX12, "<init>", "()V"⟩
abbrev cX12_isIn : ByteArray := prog_14_method_2_code
def yX12_isIn : MethodName := ⟨RX12, "isIn", "(JJJ)Z"⟩
abbrev cX12_feed : ByteArray := prog_14_method_3_code
def yX12_feed : MethodName := ⟨RX12, "feed", "(IIIII)I"⟩
abbrev cX12_end : ByteArray := prog_14_method_4_code
def yX12_end : MethodName := ⟨RX12, "end", "(I)Z"⟩
abbrev cX12_fail : ByteArray := prog_14_method_5_code
def yX12_fail : MethodName := ⟨RX12, "fail", "(II)V"⟩
abbrev cX12_isLetter : ByteArray := prog_14_method_6_code
def yX12_isLetter : MethodName := ⟨RX12, "isLetter", "(I)Z"⟩
abbrev cX12_isDigit : ByteArray := prog_14_method_7_code
def yX12_isDigit : MethodName := ⟨RX12, "isDigit", "(I)Z"⟩
abbrev cX12_look : ByteArray := prog_14_method_8_code
def yX12_look : MethodName := ⟨RX12, "look", "()I"⟩
abbrev cX12_isHere : ByteArray := prog_14_method_9_code
def yX12_isHere : MethodName := ⟨RX12, "isHere", "([C)Z"⟩
abbrev cX12_takes : ByteArray := prog_14_method_10_code
def yX12_takes : MethodName := ⟨RX12, "takes", "([C)Z"⟩
abbrev cX12_asks : ByteArray := prog_14_method_11_code
def yX12_asks : MethodName := ⟨RX12, "asks", "([C)V"⟩
abbrev cX12_takesSign : ByteArray := prog_14_method_12_code
def yX12_takesSign : MethodName := ⟨RX12, "takesSign", "(I)Z"⟩
abbrev cX12_asksSign : ByteArray := prog_14_method_13_code
def yX12_asksSign : MethodName := ⟨RX12, "asksSign", "(I)V"⟩
abbrev cX12_number : ByteArray := prog_14_method_14_code
def yX12_number : MethodName := ⟨RX12, "number", "(II)I"⟩
abbrev cX12_isAllowed : ByteArray := prog_14_method_15_code
def yX12_isAllowed : MethodName := ⟨RX12, "isAllowed", "(I)Z"⟩
abbrev cX12_lockTold : ByteArray := prog_14_method_16_code
def yX12_lockTold : MethodName := ⟨RX12, "lockTold", "()V"⟩
abbrev cX12_dayTold : ByteArray := prog_14_method_17_code
def yX12_dayTold : MethodName := ⟨RX12, "dayTold", "(I)V"⟩
abbrev cX12_muteTold : ByteArray := prog_14_method_18_code
def yX12_muteTold : MethodName := ⟨RX12, "muteTold", "()V"⟩
abbrev cX12_codesTold : ByteArray := prog_14_method_19_code
def yX12_codesTold : MethodName := ⟨RX12, "codesTold", "(II)V"⟩
abbrev cX12_statementTold : ByteArray := prog_14_method_20_code
def yX12_statementTold : MethodName := ⟨RX12, "statementTold", "()V"⟩
abbrev cX12_lock : ByteArray := prog_14_method_21_code
def yX12_lock : MethodName := ⟨RX12, "lock", "()I"⟩
abbrev cX12_stands : ByteArray := prog_14_method_22_code
def yX12_stands : MethodName := ⟨RX12, "stands", "()V"⟩
abbrev cX12_fault : ByteArray := prog_14_method_23_code
def yX12_fault : MethodName := ⟨RX12, "fault", "(I)I"⟩
abbrev cX12_dayMany : ByteArray := prog_14_method_24_code
def yX12_dayMany : MethodName := ⟨RX12, "dayMany", "()I"⟩
abbrev cX12_isDay : ByteArray := prog_14_method_25_code
def yX12_isDay : MethodName := ⟨RX12, "isDay", "(I)Z"⟩
abbrev cX12_isMood : ByteArray := prog_14_method_26_code
def yX12_isMood : MethodName := ⟨RX12, "isMood", "(I)Z"⟩
abbrev cX12_bargeOf : ByteArray := prog_14_method_27_code
def yX12_bargeOf : MethodName := ⟨RX12, "bargeOf", "(I)I"⟩
abbrev cX12_wetOf : ByteArray := prog_14_method_28_code
def yX12_wetOf : MethodName := ⟨RX12, "wetOf", "(I)I"⟩
abbrev cX12_isMute : ByteArray := prog_14_method_29_code
def yX12_isMute : MethodName := ⟨RX12, "isMute", "(I)Z"⟩
abbrev cX12_codesTell : ByteArray := prog_14_method_30_code
def yX12_codesTell : MethodName := ⟨RX12, "codesTell", "(II)J"⟩
abbrev cX12_byTen : ByteArray := prog_14_method_31_code
def yX12_byTen : MethodName := ⟨RX12, "byTen", "(J)I"⟩
abbrev cX12_wordOf : ByteArray := prog_14_method_32_code
def yX12_wordOf : MethodName := ⟨RX12, "wordOf", "(II)I"⟩
abbrev cX12_becomesBy : ByteArray := prog_14_method_33_code
def yX12_becomesBy : MethodName := ⟨RX12, "becomesBy", "(IIIZ)I"⟩
abbrev cX12_wageOf : ByteArray := prog_14_method_34_code
def yX12_wageOf : MethodName := ⟨RX12, "wageOf", "(II)J"⟩
abbrev cX12_laysDays : ByteArray := prog_14_method_35_code
def yX12_laysDays : MethodName := ⟨RX12, "laysDays", "(I)V"⟩
abbrev cX12_isMuteNow : ByteArray := prog_14_method_36_code
def yX12_isMuteNow : MethodName := ⟨RX12, "isMuteNow", "(I)Z"⟩
abbrev cX12_isLeft : ByteArray := prog_14_method_37_code
def yX12_isLeft : MethodName := ⟨RX12, "isLeft", "(II)Z"⟩
abbrev cX12_canFollow : ByteArray := prog_14_method_38_code
def yX12_canFollow : MethodName := ⟨RX12, "canFollow", "(III)Z"⟩
abbrev cX12_laysWays : ByteArray := prog_14_method_39_code
def yX12_laysWays : MethodName := ⟨RX12, "laysWays", "()V"⟩
abbrev cX12_laysAll : ByteArray := prog_14_method_40_code
def yX12_laysAll : MethodName := ⟨RX12, "laysAll", "()V"⟩
abbrev cX12_walksTo : ByteArray := prog_14_method_41_code
def yX12_walksTo : MethodName := ⟨RX12, "walksTo", "(J)V"⟩
abbrev cX12_doesAgree : ByteArray := prog_14_method_42_code
def yX12_doesAgree : MethodName := ⟨RX12, "doesAgree", "(I)Z"⟩
abbrev cX12_isKept : ByteArray := prog_14_method_43_code
def yX12_isKept : MethodName := ⟨RX12, "isKept", "()V"⟩
abbrev cX12_goesBy : ByteArray := prog_14_method_44_code
def yX12_goesBy : MethodName := ⟨RX12, "goesBy", "(J)V"⟩
abbrev cX12_doGo : ByteArray := prog_14_method_45_code
def yX12_doGo : MethodName := ⟨RX12, "doGo", "()Z"⟩
abbrev cX12_putsAside : ByteArray := prog_14_method_46_code
def yX12_putsAside : MethodName := ⟨RX12, "putsAside", "()V"⟩
abbrev cX12_takesBack : ByteArray := prog_14_method_47_code
def yX12_takesBack : MethodName := ⟨RX12, "takesBack", "()V"⟩
abbrev cX12_isAhead : ByteArray := prog_14_method_48_code
def yX12_isAhead : MethodName := ⟨RX12, "isAhead", "(III)Z"⟩
abbrev cX12_bits : ByteArray := prog_14_method_49_code
def yX12_bits : MethodName := ⟨RX12, "bits", "(I)I"⟩
abbrev cX12_muteSet : ByteArray := prog_14_method_50_code
def yX12_muteSet : MethodName := ⟨RX12, "muteSet", "()I"⟩
abbrev cX12_has : ByteArray := prog_14_method_51_code
def yX12_has : MethodName := ⟨RX12, "has", "(I)I"⟩
abbrev cX12_day : ByteArray := prog_14_method_52_code
def yX12_day : MethodName := ⟨RX12, "day", "(II)I"⟩
abbrev cX12_told : ByteArray := prog_14_method_53_code
def yX12_told : MethodName := ⟨RX12, "told", "(II)I"⟩
abbrev cX12_does : ByteArray := prog_14_method_54_code
def yX12_does : MethodName := ⟨RX12, "does", "(III)I"⟩
abbrev cX12_kept : ByteArray := prog_14_method_55_code
def yX12_kept : MethodName := ⟨RX12, "kept", "(II)J"⟩
abbrev cX12_weeks : ByteArray := prog_14_method_56_code
def yX12_weeks : MethodName := ⟨RX12, "weeks", "()J"⟩
abbrev cX12_mood : ByteArray := prog_14_method_57_code
def yX12_mood : MethodName := ⟨RX12, "mood", "(II)I"⟩
abbrev cX12_many : ByteArray := prog_14_method_58_code
def yX12_many : MethodName := ⟨RX12, "many", "(II)J"⟩
abbrev cX12_hushed : ByteArray := prog_14_method_59_code
def yX12_hushed : MethodName := ⟨RX12, "hushed", "()I"⟩
abbrev cX12_wished : ByteArray := prog_14_method_60_code
def yX12_wished : MethodName := ⟨RX12, "wished", "(II)I"⟩
abbrev cX12_lies : ByteArray := prog_14_method_61_code
def yX12_lies : MethodName := ⟨RX12, "lies", "()I"⟩
abbrev cX12_later : ByteArray := prog_14_method_62_code
def yX12_later : MethodName := ⟨RX12, "later", "(I)I"⟩
abbrev cX12_ring : ByteArray := prog_14_method_63_code
def yX12_ring : MethodName := ⟨RX12, "ring", "()I"⟩
abbrev cX12_frees : ByteArray := prog_14_method_64_code
def yX12_frees : MethodName := ⟨RX12, "frees", "(II)I"⟩
abbrev cX12_laysPay : ByteArray := prog_14_method_65_code
def yX12_laysPay : MethodName := ⟨RX12, "laysPay", "()V"⟩
abbrev cX12_bestBehind : ByteArray := prog_14_method_66_code
def yX12_bestBehind : MethodName := ⟨RX12, "bestBehind", "(II)I"⟩
abbrev cX12_pay : ByteArray := prog_14_method_67_code
def yX12_pay : MethodName := ⟨RX12, "pay", "()J"⟩
abbrev cX12_paid : ByteArray := prog_14_method_68_code
def yX12_paid : MethodName := ⟨RX12, "paid", "(I)I"⟩
abbrev cX12_laysRest : ByteArray := prog_14_method_69_code
def yX12_laysRest : MethodName := ⟨RX12, "laysRest", "()V"⟩
abbrev cX12_isRest : ByteArray := prog_14_method_70_code
def yX12_isRest : MethodName := ⟨RX12, "isRest", "(I)Z"⟩
abbrev cX12_rest : ByteArray := prog_14_method_71_code
def yX12_rest : MethodName := ⟨RX12, "rest", "()I"⟩
abbrev cX12_unlike : ByteArray := prog_14_method_72_code
def yX12_unlike : MethodName := ⟨RX12, "unlike", "(II)I"⟩
abbrev cX12_laysByWord : ByteArray := prog_14_method_73_code
def yX12_laysByWord : MethodName := ⟨RX12, "laysByWord", "(II)V"⟩
abbrev cX12_moodsOf : ByteArray := prog_14_method_74_code
def yX12_moodsOf : MethodName := ⟨RX12, "moodsOf", "(I)I"⟩
abbrev cX12_canBeTold : ByteArray := prog_14_method_75_code
def yX12_canBeTold : MethodName := ⟨RX12, "canBeTold", "(II)Z"⟩
abbrev cX12_known : ByteArray := prog_14_method_76_code
def yX12_known : MethodName := ⟨RX12, "known", "(III)I"⟩
abbrev cX12_sure : ByteArray := prog_14_method_77_code
def yX12_sure : MethodName := ⟨RX12, "sure", "(II)I"⟩
abbrev cX12_refuses : ByteArray := prog_14_method_78_code
def yX12_refuses : MethodName := ⟨RX12, "refuses", "(I)I"⟩
abbrev cX12_hear : ByteArray := prog_14_method_79_code
def yX12_hear : MethodName := ⟨RX12, "hear", "()I"⟩
abbrev cX12_laysHeard : ByteArray := prog_14_method_80_code
def yX12_laysHeard : MethodName := ⟨RX12, "laysHeard", "()V"⟩
abbrev cX12_heard : ByteArray := prog_14_method_81_code
def yX12_heard : MethodName := ⟨RX12, "heard", "()J"⟩
abbrev cX12_tells : ByteArray := prog_14_method_82_code
def yX12_tells : MethodName := ⟨RX12, "tells", "(I)J"⟩
abbrev cX12_same : ByteArray := prog_14_method_83_code
def yX12_same : MethodName := ⟨RX12, "same", "(II)I"⟩
abbrev cX12_keeps : ByteArray := prog_14_method_84_code
def yX12_keeps : MethodName := ⟨RX12, "keeps", "()V"⟩
abbrev cX12_undo : ByteArray := prog_14_method_85_code
def yX12_undo : MethodName := ⟨RX12, "undo", "()Z"⟩
abbrev cX12_becomes : ByteArray := prog_14_method_86_code
def yX12_becomes : MethodName := ⟨RX12, "becomes", "(IIIZ)Z"⟩
abbrev cX12_set : ByteArray := prog_14_method_87_code
def yX12_set : MethodName := ⟨RX12, "set", "(III)Z"⟩
abbrev cX12_mute : ByteArray := prog_14_method_88_code
def yX12_mute : MethodName := ⟨RX12, "mute", "(II)Z"⟩
abbrev cX12_go : ByteArray := prog_14_method_89_code
def yX12_go : MethodName := ⟨RX12, "go", "()I"⟩
abbrev cX12_seed : ByteArray := prog_14_method_90_code
def yX12_seed : MethodName := ⟨RX12, "seed", "(I)Z"⟩
abbrev cX12_drawOf : ByteArray := prog_14_method_91_code
def yX12_drawOf : MethodName := ⟨RX12, "drawOf", "(J)J"⟩
abbrev cX12_drawsDays : ByteArray := prog_14_method_92_code
def yX12_drawsDays : MethodName := ⟨RX12, "drawsDays", "()V"⟩
abbrev cX12_chance : ByteArray := prog_14_method_93_code
def yX12_chance : MethodName := ⟨RX12, "chance", "(I)I"⟩
abbrev cX12_qCode : ByteArray := prog_14_method_94_code
def yX12_qCode : MethodName := ⟨RX12, "qCode", "(I)V"⟩
abbrev cX12_qOpens : ByteArray := prog_14_method_95_code
def yX12_qOpens : MethodName := ⟨RX12, "qOpens", "(II)V"⟩
abbrev cX12_qIsOn : ByteArray := prog_14_method_96_code
def yX12_qIsOn : MethodName := ⟨RX12, "qIsOn", "(I)Z"⟩
abbrev cX12_qDrops : ByteArray := prog_14_method_97_code
def yX12_qDrops : MethodName := ⟨RX12, "qDrops", "()V"⟩
abbrev cX12_qIsBracket : ByteArray := prog_14_method_98_code
def yX12_qIsBracket : MethodName := ⟨RX12, "qIsBracket", "(I)Z"⟩
abbrev cX12_qBracket : ByteArray := prog_14_method_99_code
def yX12_qBracket : MethodName := ⟨RX12, "qBracket", "()I"⟩
abbrev cX12_qDropsToBracket : ByteArray := prog_14_method_100_code
def yX12_qDropsToBracket : MethodName := ⟨RX12, "qDropsToBracket", "()V"⟩
abbrev cX12_qWordHere : ByteArray := prog_14_method_101_code
def yX12_qWordHere : MethodName := ⟨RX12, "qWordHere", "()I"⟩
abbrev cX12_qWordOf : ByteArray := prog_14_method_102_code
def yX12_qWordOf : MethodName := ⟨RX12, "qWordOf", "(II)I"⟩
abbrev cX12_qAsksWord : ByteArray := prog_14_method_103_code
def yX12_qAsksWord : MethodName := ⟨RX12, "qAsksWord", "(I)V"⟩
abbrev cX12_qEndsPart : ByteArray := prog_14_method_104_code
def yX12_qEndsPart : MethodName := ⟨RX12, "qEndsPart", "()V"⟩
abbrev cX12_qPartTold : ByteArray := prog_14_method_105_code
def yX12_qPartTold : MethodName := ⟨RX12, "qPartTold", "()V"⟩
abbrev cX12_qGoesOn : ByteArray := prog_14_method_106_code
def yX12_qGoesOn : MethodName := ⟨RX12, "qGoesOn", "()Z"⟩
abbrev cX12_qSums : ByteArray := prog_14_method_107_code
def yX12_qSums : MethodName := ⟨RX12, "qSums", "()V"⟩
abbrev cX12_qFact : ByteArray := prog_14_method_108_code
def yX12_qFact : MethodName := ⟨RX12, "qFact", "()V"⟩
abbrev cX12_qHasSquare : ByteArray := prog_14_method_109_code
def yX12_qHasSquare : MethodName := ⟨RX12, "qHasSquare", "()Z"⟩
abbrev cX12_qDropsNots : ByteArray := prog_14_method_110_code
def yX12_qDropsNots : MethodName := ⟨RX12, "qDropsNots", "()V"⟩
abbrev cX12_qTest : ByteArray := prog_14_method_111_code
def yX12_qTest : MethodName := ⟨RX12, "qTest", "()V"⟩
abbrev cX12_qGoesOnTest : ByteArray := prog_14_method_112_code
def yX12_qGoesOnTest : MethodName := ⟨RX12, "qGoesOnTest", "()Z"⟩
abbrev cX12_qClip : ByteArray := prog_14_method_113_code
def yX12_qClip : MethodName := ⟨RX12, "qClip", "(J)J"⟩
abbrev cX12_qFloor : ByteArray := prog_14_method_114_code
def yX12_qFloor : MethodName := ⟨RX12, "qFloor", "(JJ)J"⟩
abbrev cX12_qPuts : ByteArray := prog_14_method_115_code
def yX12_qPuts : MethodName := ⟨RX12, "qPuts", "(J)V"⟩
abbrev cX12_qJoins : ByteArray := prog_14_method_116_code
def yX12_qJoins : MethodName := ⟨RX12, "qJoins", "(I)V"⟩
abbrev cX12_qPartOf : ByteArray := prog_14_method_117_code
def yX12_qPartOf : MethodName := ⟨RX12, "qPartOf", "(II)J"⟩
abbrev cX12_qOf : ByteArray := prog_14_method_118_code
def yX12_qOf : MethodName := ⟨RX12, "qOf", "(IJI)J"⟩
abbrev cX12_qTold : ByteArray := prog_14_method_119_code
def yX12_qTold : MethodName := ⟨RX12, "qTold", "(I)J"⟩
abbrev cX12_qKind : ByteArray := prog_14_method_120_code
def yX12_qKind : MethodName := ⟨RX12, "qKind", "()I"⟩
abbrev cX12_qTakes : ByteArray := prog_14_method_121_code
def yX12_qTakes : MethodName := ⟨RX12, "qTakes", "(IJI)V"⟩
abbrev cX12_ask : ByteArray := prog_14_method_122_code
def yX12_ask : MethodName := ⟨RX12, "ask", "()J"⟩
abbrev cX12_checked : ByteArray := prog_14_method_123_code
def yX12_checked : MethodName := ⟨RX12, "checked", "([II)I"⟩
abbrev cX12_writes : ByteArray := prog_14_method_124_code
def yX12_writes : MethodName := ⟨RX12, "writes", "(I)V"⟩
abbrev cX12_image : ByteArray := prog_14_method_125_code
def yX12_image : MethodName := ⟨RX12, "image", "()I"⟩
abbrev cX12_octet : ByteArray := prog_14_method_126_code
def yX12_octet : MethodName := ⟨RX12, "octet", "(I)I"⟩
abbrev cX12_isImage : ByteArray := prog_14_method_127_code
def yX12_isImage : MethodName := ⟨RX12, "isImage", "(I)Z"⟩
abbrev cX12_on : ByteArray := prog_14_method_128_code
def yX12_on : MethodName := ⟨RX12, "on", "()Z"⟩
abbrev cX12_status : ByteArray := prog_14_method_129_code
def yX12_status : MethodName := ⟨RX12, "status", "(I)I"⟩
def RJ6 : String := "java/lang/Integer"
abbrev cJ6_numberOfTrailingZeros_0f7a4 : ByteArray := prog_15_method_48_code
def yJ6_numberOfTrailingZeros_0f7a4 : MethodName := ⟨RJ6, "numberOfTrailingZeros", "(I)I"⟩
abbrev cJ6_bitCount_0f7a4 : ByteArray := prog_15_method_49_code
def yJ6_bitCount_0f7a4 : MethodName := ⟨RJ6, "bitCount", "(I)I"⟩
def RJ9 : String := "java/lang/Math"
abbrev cJ9_floorDiv_f86c9 : ByteArray := prog_16_method_49_code
def yJ9_floorDiv_f86c9 : MethodName := ⟨RJ9, "floorDiv", "(JJ)J"⟩
abbrev cJ9_floorMod_1978a : ByteArray := prog_16_method_51_code
def yJ9_floorMod_1978a : MethodName := ⟨RJ9, "floorMod", "(JI)I"⟩
abbrev cJ9_floorMod_f86c9 : ByteArray := prog_16_method_52_code
def yJ9_floorMod_f86c9 : MethodName := ⟨RJ9, "floorMod", "(JJ)J"⟩
def RJ0 : String := "java/lang/String"
abbrev cJ0_length_8abf5 : ByteArray := prog_17_method_54_code
def yJ0_length_8abf5 : MethodName := ⟨RJ0, "length", "()I"⟩
abbrev cJ0_charAt_5068e : ByteArray := prog_17_method_56_code
def yJ0_charAt_5068e : MethodName := ⟨RJ0, "charAt", "(I)C"⟩
abbrev cJ0_coder_7d493 : ByteArray := prog_17_method_152_code
def yJ0_coder_7d493 : MethodName := ⟨RJ0, "coder", "()B"⟩
abbrev cJ0_isLatin1_aae02 : ByteArray := prog_17_method_154_code
def yJ0_isLatin1_aae02 : MethodName := ⟨RJ0, "isLatin1", "()Z"⟩
abbrev cJ0_checkIndex_df160 : ByteArray := prog_17_method_155_code
def yJ0_checkIndex_df160 : MethodName := ⟨RJ0, "checkIndex", "(II)V"⟩
def RJ1 : String := "java/lang/StringLatin1"
abbrev cJ1_charAt_3b067 : ByteArray := prog_18_method_2_code
def yJ1_charAt_3b067 : MethodName := ⟨RJ1, "charAt", "([BI)C"⟩
def RJ7 : String := "java/util/Arrays"
abbrev cJ7_fill_d0a16 : ByteArray := prog_21_method_101_code
def yJ7_fill_d0a16 : MethodName := ⟨RJ7, "fill", "([JJ)V"⟩
abbrev cJ7_fill_53178 : ByteArray := prog_21_method_103_code
def yJ7_fill_53178 : MethodName := ⟨RJ7, "fill", "([II)V"⟩
def RJ3 : String := "jdk/internal/util/Preconditions"
abbrev cJ3_checkIndex_8e157 : ByteArray := prog_22_method_11_code
def yJ3_checkIndex_8e157 : MethodName := ⟨RJ3, "checkIndex", "(IILjava/util/function/BiFunction;)I"⟩
def RL : String := "SameKeeperLaw"
abbrev cL_law : ByteArray := code
abbrev vwCl : List vw_C := [(RX0, TX0, 6), (RX1, TX1, 9), (RX2, TX2, 10), (RX3, TX3, 3), (RX4, TX4, 5), (RX5, TX5, 4), (RX6, TX6, 8), (RX7, TX7, 7), (RX8, TX8, 2), (RX9, TX9, 6), (RX10, TX10, 2), (RX11, TX11, 18), (RX12, TX12, 92)]
/-- the words that all contracts stand on: those of the tables that outlast a call -/
def wsL_law : List Cond := lw_tbl.filter goodWord
theorem wsL_law_in : ∀ w ∈ wsL_law, w ∈ lw_tbl := fun _ h => (List.mem_filter.mp h).1
theorem sk_mem {w : Cond} (h : w ∈ lw_tbl) (g : goodWord w = true) : w ∈ wsL_law := List.mem_filter.mpr ⟨h, g⟩
theorem ck_0 : ∀ w ∈ k2_sels lw_privs, w ∈ lw_tbl := fun _ h => List.mem_append_left _ h
theorem ck_1 : ∀ w ∈ tables_1_1, w ∈ lw_tbl := fun _ h => List.mem_append_right _ (List.mem_append_left _ h)
theorem ck_2 : ∀ w ∈ tables_1_2, w ∈ lw_tbl := fun _ h => List.mem_append_right _ (List.mem_append_right _ (List.mem_append_left _ h))
theorem ck_3 : ∀ w ∈ tables_1_3, w ∈ lw_tbl := fun _ h => List.mem_append_right _ (List.mem_append_right _ (List.mem_append_right _ (List.mem_append_left _ h)))
theorem ck_4 : ∀ w ∈ tables_1_4, w ∈ lw_tbl := fun _ h => List.mem_append_right _ (List.mem_append_right _ (List.mem_append_right _ (List.mem_append_right _ (List.mem_append_left _ h))))
theorem ck_5 : ∀ w ∈ tables_1_5, w ∈ lw_tbl := fun _ h => List.mem_append_right _ (List.mem_append_right _ (List.mem_append_right _ (List.mem_append_right _ (List.mem_append_right _ (List.mem_append_left _ h)))))
theorem ck_6 : ∀ w ∈ tables_1_6, w ∈ lw_tbl := fun _ h => List.mem_append_right _ (List.mem_append_right _ (List.mem_append_right _ (List.mem_append_right _ (List.mem_append_right _ (List.mem_append_right _ (List.mem_append_left _ h))))))
theorem ck_7 : ∀ w ∈ tables_1_7, w ∈ lw_tbl := fun _ h => List.mem_append_right _ (List.mem_append_right _ (List.mem_append_right _ (List.mem_append_right _ (List.mem_append_right _ (List.mem_append_right _ (List.mem_append_right _ (List.mem_append_left _ h)))))))
theorem ck_8 : ∀ w ∈ tables_1_8, w ∈ lw_tbl := fun _ h => List.mem_append_right _ (List.mem_append_right _ (List.mem_append_right _ (List.mem_append_right _ (List.mem_append_right _ (List.mem_append_right _ (List.mem_append_right _ (List.mem_append_right _ (h))))))))
theorem inlX0 : ∀ w ∈ u_ws RX0 TX0 6, w ∈ wsL_law := fun w hw => by
  obtain ⟨k, hk, rfl⟩ := List.mem_map.mp hw
  have hk := List.mem_range.mp hk
  match k, hk with
  | 0, _ => exact sk_mem (ck_1 _ (List.mem_of_getElem? (i := 138) rfl)) rfl
  | 1, _ => exact sk_mem (ck_1 _ (List.mem_of_getElem? (i := 140) rfl)) rfl
  | 2, _ => exact sk_mem (ck_1 _ (List.mem_of_getElem? (i := 142) rfl)) rfl
  | 3, _ => exact sk_mem (ck_1 _ (List.mem_of_getElem? (i := 144) rfl)) rfl
  | 4, _ => exact sk_mem (ck_1 _ (List.mem_of_getElem? (i := 146) rfl)) rfl
  | 5, _ => exact sk_mem (ck_1 _ (List.mem_of_getElem? (i := 148) rfl)) rfl
  | n + 6, h => exact absurd h (by omega)
theorem inlX1 : ∀ w ∈ u_ws RX1 TX1 9, w ∈ wsL_law := fun w hw => by
  obtain ⟨k, hk, rfl⟩ := List.mem_map.mp hw
  have hk := List.mem_range.mp hk
  match k, hk with
  | 0, _ => exact sk_mem (ck_2 _ (List.mem_of_getElem? (i := 104) rfl)) rfl
  | 1, _ => exact sk_mem (ck_2 _ (List.mem_of_getElem? (i := 106) rfl)) rfl
  | 2, _ => exact sk_mem (ck_2 _ (List.mem_of_getElem? (i := 108) rfl)) rfl
  | 3, _ => exact sk_mem (ck_2 _ (List.mem_of_getElem? (i := 110) rfl)) rfl
  | 4, _ => exact sk_mem (ck_2 _ (List.mem_of_getElem? (i := 112) rfl)) rfl
  | 5, _ => exact sk_mem (ck_2 _ (List.mem_of_getElem? (i := 114) rfl)) rfl
  | 6, _ => exact sk_mem (ck_2 _ (List.mem_of_getElem? (i := 116) rfl)) rfl
  | 7, _ => exact sk_mem (ck_2 _ (List.mem_of_getElem? (i := 118) rfl)) rfl
  | 8, _ => exact sk_mem (ck_2 _ (List.mem_of_getElem? (i := 120) rfl)) rfl
  | n + 9, h => exact absurd h (by omega)
theorem inlX2 : ∀ w ∈ u_ws RX2 TX2 10, w ∈ wsL_law := fun w hw => by
  obtain ⟨k, hk, rfl⟩ := List.mem_map.mp hw
  have hk := List.mem_range.mp hk
  match k, hk with
  | 0, _ => exact sk_mem (ck_1 _ (List.mem_of_getElem? (i := 203) rfl)) rfl
  | 1, _ => exact sk_mem (ck_1 _ (List.mem_of_getElem? (i := 205) rfl)) rfl
  | 2, _ => exact sk_mem (ck_1 _ (List.mem_of_getElem? (i := 207) rfl)) rfl
  | 3, _ => exact sk_mem (ck_1 _ (List.mem_of_getElem? (i := 209) rfl)) rfl
  | 4, _ => exact sk_mem (ck_1 _ (List.mem_of_getElem? (i := 211) rfl)) rfl
  | 5, _ => exact sk_mem (ck_1 _ (List.mem_of_getElem? (i := 213) rfl)) rfl
  | 6, _ => exact sk_mem (ck_1 _ (List.mem_of_getElem? (i := 215) rfl)) rfl
  | 7, _ => exact sk_mem (ck_1 _ (List.mem_of_getElem? (i := 217) rfl)) rfl
  | 8, _ => exact sk_mem (ck_1 _ (List.mem_of_getElem? (i := 219) rfl)) rfl
  | 9, _ => exact sk_mem (ck_1 _ (List.mem_of_getElem? (i := 221) rfl)) rfl
  | n + 10, h => exact absurd h (by omega)
theorem inlX3 : ∀ w ∈ u_ws RX3 TX3 3, w ∈ wsL_law := fun w hw => by
  obtain ⟨k, hk, rfl⟩ := List.mem_map.mp hw
  have hk := List.mem_range.mp hk
  match k, hk with
  | 0, _ => exact sk_mem (ck_1 _ (List.mem_of_getElem? (i := 110) rfl)) rfl
  | 1, _ => exact sk_mem (ck_1 _ (List.mem_of_getElem? (i := 112) rfl)) rfl
  | 2, _ => exact sk_mem (ck_1 _ (List.mem_of_getElem? (i := 114) rfl)) rfl
  | n + 3, h => exact absurd h (by omega)
theorem inlX4 : ∀ w ∈ u_ws RX4 TX4 5, w ∈ wsL_law := fun w hw => by
  obtain ⟨k, hk, rfl⟩ := List.mem_map.mp hw
  have hk := List.mem_range.mp hk
  match k, hk with
  | 0, _ => exact sk_mem (ck_2 _ (List.mem_of_getElem? (i := 46) rfl)) rfl
  | 1, _ => exact sk_mem (ck_2 _ (List.mem_of_getElem? (i := 48) rfl)) rfl
  | 2, _ => exact sk_mem (ck_2 _ (List.mem_of_getElem? (i := 50) rfl)) rfl
  | 3, _ => exact sk_mem (ck_2 _ (List.mem_of_getElem? (i := 52) rfl)) rfl
  | 4, _ => exact sk_mem (ck_2 _ (List.mem_of_getElem? (i := 54) rfl)) rfl
  | n + 5, h => exact absurd h (by omega)
theorem inlX5 : ∀ w ∈ u_ws RX5 TX5 4, w ∈ wsL_law := fun w hw => by
  obtain ⟨k, hk, rfl⟩ := List.mem_map.mp hw
  have hk := List.mem_range.mp hk
  match k, hk with
  | 0, _ => exact sk_mem (ck_1 _ (List.mem_of_getElem? (i := 158) rfl)) rfl
  | 1, _ => exact sk_mem (ck_1 _ (List.mem_of_getElem? (i := 160) rfl)) rfl
  | 2, _ => exact sk_mem (ck_1 _ (List.mem_of_getElem? (i := 162) rfl)) rfl
  | 3, _ => exact sk_mem (ck_1 _ (List.mem_of_getElem? (i := 164) rfl)) rfl
  | n + 4, h => exact absurd h (by omega)
theorem inlX6 : ∀ w ∈ u_ws RX6 TX6 8, w ∈ wsL_law := fun w hw => by
  obtain ⟨k, hk, rfl⟩ := List.mem_map.mp hw
  have hk := List.mem_range.mp hk
  match k, hk with
  | 0, _ => exact sk_mem (ck_1 _ (List.mem_of_getElem? (i := 71) rfl)) rfl
  | 1, _ => exact sk_mem (ck_1 _ (List.mem_of_getElem? (i := 73) rfl)) rfl
  | 2, _ => exact sk_mem (ck_1 _ (List.mem_of_getElem? (i := 75) rfl)) rfl
  | 3, _ => exact sk_mem (ck_1 _ (List.mem_of_getElem? (i := 77) rfl)) rfl
  | 4, _ => exact sk_mem (ck_1 _ (List.mem_of_getElem? (i := 79) rfl)) rfl
  | 5, _ => exact sk_mem (ck_1 _ (List.mem_of_getElem? (i := 81) rfl)) rfl
  | 6, _ => exact sk_mem (ck_1 _ (List.mem_of_getElem? (i := 83) rfl)) rfl
  | 7, _ => exact sk_mem (ck_1 _ (List.mem_of_getElem? (i := 85) rfl)) rfl
  | n + 8, h => exact absurd h (by omega)
theorem inlX7 : ∀ w ∈ u_ws RX7 TX7 7, w ∈ wsL_law := fun w hw => by
  obtain ⟨k, hk, rfl⟩ := List.mem_map.mp hw
  have hk := List.mem_range.mp hk
  match k, hk with
  | 0, _ => exact sk_mem (ck_2 _ (List.mem_of_getElem? (i := 16) rfl)) rfl
  | 1, _ => exact sk_mem (ck_2 _ (List.mem_of_getElem? (i := 18) rfl)) rfl
  | 2, _ => exact sk_mem (ck_2 _ (List.mem_of_getElem? (i := 20) rfl)) rfl
  | 3, _ => exact sk_mem (ck_2 _ (List.mem_of_getElem? (i := 22) rfl)) rfl
  | 4, _ => exact sk_mem (ck_2 _ (List.mem_of_getElem? (i := 24) rfl)) rfl
  | 5, _ => exact sk_mem (ck_2 _ (List.mem_of_getElem? (i := 26) rfl)) rfl
  | 6, _ => exact sk_mem (ck_2 _ (List.mem_of_getElem? (i := 28) rfl)) rfl
  | n + 7, h => exact absurd h (by omega)
theorem inlX8 : ∀ w ∈ u_ws RX8 TX8 2, w ∈ wsL_law := fun w hw => by
  obtain ⟨k, hk, rfl⟩ := List.mem_map.mp hw
  have hk := List.mem_range.mp hk
  match k, hk with
  | 0, _ => exact sk_mem (ck_1 _ (List.mem_of_getElem? (i := 102) rfl)) rfl
  | 1, _ => exact sk_mem (ck_1 _ (List.mem_of_getElem? (i := 104) rfl)) rfl
  | n + 2, h => exact absurd h (by omega)
theorem inlX9 : ∀ w ∈ u_ws RX9 TX9 6, w ∈ wsL_law := fun w hw => by
  obtain ⟨k, hk, rfl⟩ := List.mem_map.mp hw
  have hk := List.mem_range.mp hk
  match k, hk with
  | 0, _ => exact sk_mem (ck_2 _ (List.mem_of_getElem? (i := 76) rfl)) rfl
  | 1, _ => exact sk_mem (ck_2 _ (List.mem_of_getElem? (i := 78) rfl)) rfl
  | 2, _ => exact sk_mem (ck_2 _ (List.mem_of_getElem? (i := 80) rfl)) rfl
  | 3, _ => exact sk_mem (ck_2 _ (List.mem_of_getElem? (i := 82) rfl)) rfl
  | 4, _ => exact sk_mem (ck_2 _ (List.mem_of_getElem? (i := 84) rfl)) rfl
  | 5, _ => exact sk_mem (ck_2 _ (List.mem_of_getElem? (i := 86) rfl)) rfl
  | n + 6, h => exact absurd h (by omega)
theorem inlX10 : ∀ w ∈ u_ws RX10 TX10 2, w ∈ wsL_law := fun w hw => by
  obtain ⟨k, hk, rfl⟩ := List.mem_map.mp hw
  have hk := List.mem_range.mp hk
  match k, hk with
  | 0, _ => exact sk_mem (ck_1 _ (List.mem_of_getElem? (i := 44) rfl)) rfl
  | 1, _ => exact sk_mem (ck_1 _ (List.mem_of_getElem? (i := 46) rfl)) rfl
  | n + 2, h => exact absurd h (by omega)
theorem inlX11 : ∀ w ∈ u_ws RX11 TX11 18, w ∈ wsL_law := fun w hw => by
  obtain ⟨k, hk, rfl⟩ := List.mem_map.mp hw
  have hk := List.mem_range.mp hk
  match k, hk with
  | 0, _ => exact sk_mem (ck_2 _ (List.mem_of_getElem? (i := 141) rfl)) rfl
  | 1, _ => exact sk_mem (ck_2 _ (List.mem_of_getElem? (i := 143) rfl)) rfl
  | 2, _ => exact sk_mem (ck_2 _ (List.mem_of_getElem? (i := 145) rfl)) rfl
  | 3, _ => exact sk_mem (ck_2 _ (List.mem_of_getElem? (i := 147) rfl)) rfl
  | 4, _ => exact sk_mem (ck_2 _ (List.mem_of_getElem? (i := 149) rfl)) rfl
  | 5, _ => exact sk_mem (ck_2 _ (List.mem_of_getElem? (i := 151) rfl)) rfl
  | 6, _ => exact sk_mem (ck_2 _ (List.mem_of_getElem? (i := 153) rfl)) rfl
  | 7, _ => exact sk_mem (ck_2 _ (List.mem_of_getElem? (i := 155) rfl)) rfl
  | 8, _ => exact sk_mem (ck_2 _ (List.mem_of_getElem? (i := 157) rfl)) rfl
  | 9, _ => exact sk_mem (ck_2 _ (List.mem_of_getElem? (i := 159) rfl)) rfl
  | 10, _ => exact sk_mem (ck_2 _ (List.mem_of_getElem? (i := 161) rfl)) rfl
  | 11, _ => exact sk_mem (ck_2 _ (List.mem_of_getElem? (i := 163) rfl)) rfl
  | 12, _ => exact sk_mem (ck_2 _ (List.mem_of_getElem? (i := 165) rfl)) rfl
  | 13, _ => exact sk_mem (ck_2 _ (List.mem_of_getElem? (i := 167) rfl)) rfl
  | 14, _ => exact sk_mem (ck_2 _ (List.mem_of_getElem? (i := 169) rfl)) rfl
  | 15, _ => exact sk_mem (ck_2 _ (List.mem_of_getElem? (i := 171) rfl)) rfl
  | 16, _ => exact sk_mem (ck_2 _ (List.mem_of_getElem? (i := 173) rfl)) rfl
  | 17, _ => exact sk_mem (ck_2 _ (List.mem_of_getElem? (i := 175) rfl)) rfl
  | n + 18, h => exact absurd h (by omega)
theorem inlX12 : ∀ w ∈ u_ws RX12 TX12 92, w ∈ wsL_law := fun w hw => by
  obtain ⟨k, hk, rfl⟩ := List.mem_map.mp hw
  have hk := List.mem_range.mp hk
  match k, hk with
  | 0, _ => exact sk_mem (ck_6 _ (List.mem_of_getElem? (i := 7) rfl)) rfl
  | 1, _ => exact sk_mem (ck_6 _ (List.mem_of_getElem? (i := 9) rfl)) rfl
  | 2, _ => exact sk_mem (ck_6 _ (List.mem_of_getElem? (i := 11) rfl)) rfl
  | 3, _ => exact sk_mem (ck_6 _ (List.mem_of_getElem? (i := 13) rfl)) rfl
  | 4, _ => exact sk_mem (ck_6 _ (List.mem_of_getElem? (i := 15) rfl)) rfl
  | 5, _ => exact sk_mem (ck_6 _ (List.mem_of_getElem? (i := 17) rfl)) rfl
  | 6, _ => exact sk_mem (ck_6 _ (List.mem_of_getElem? (i := 19) rfl)) rfl
  | 7, _ => exact sk_mem (ck_6 _ (List.mem_of_getElem? (i := 21) rfl)) rfl
  | 8, _ => exact sk_mem (ck_6 _ (List.mem_of_getElem? (i := 23) rfl)) rfl
  | 9, _ => exact sk_mem (ck_6 _ (List.mem_of_getElem? (i := 25) rfl)) rfl
  | 10, _ => exact sk_mem (ck_6 _ (List.mem_of_getElem? (i := 27) rfl)) rfl
  | 11, _ => exact sk_mem (ck_6 _ (List.mem_of_getElem? (i := 29) rfl)) rfl
  | 12, _ => exact sk_mem (ck_6 _ (List.mem_of_getElem? (i := 31) rfl)) rfl
  | 13, _ => exact sk_mem (ck_6 _ (List.mem_of_getElem? (i := 33) rfl)) rfl
  | 14, _ => exact sk_mem (ck_6 _ (List.mem_of_getElem? (i := 35) rfl)) rfl
  | 15, _ => exact sk_mem (ck_6 _ (List.mem_of_getElem? (i := 37) rfl)) rfl
  | 16, _ => exact sk_mem (ck_6 _ (List.mem_of_getElem? (i := 39) rfl)) rfl
  | 17, _ => exact sk_mem (ck_6 _ (List.mem_of_getElem? (i := 41) rfl)) rfl
  | 18, _ => exact sk_mem (ck_6 _ (List.mem_of_getElem? (i := 43) rfl)) rfl
  | 19, _ => exact sk_mem (ck_6 _ (List.mem_of_getElem? (i := 45) rfl)) rfl
  | 20, _ => exact sk_mem (ck_6 _ (List.mem_of_getElem? (i := 47) rfl)) rfl
  | 21, _ => exact sk_mem (ck_6 _ (List.mem_of_getElem? (i := 49) rfl)) rfl
  | 22, _ => exact sk_mem (ck_6 _ (List.mem_of_getElem? (i := 51) rfl)) rfl
  | 23, _ => exact sk_mem (ck_6 _ (List.mem_of_getElem? (i := 53) rfl)) rfl
  | 24, _ => exact sk_mem (ck_6 _ (List.mem_of_getElem? (i := 55) rfl)) rfl
  | 25, _ => exact sk_mem (ck_6 _ (List.mem_of_getElem? (i := 57) rfl)) rfl
  | 26, _ => exact sk_mem (ck_6 _ (List.mem_of_getElem? (i := 59) rfl)) rfl
  | 27, _ => exact sk_mem (ck_6 _ (List.mem_of_getElem? (i := 61) rfl)) rfl
  | 28, _ => exact sk_mem (ck_6 _ (List.mem_of_getElem? (i := 63) rfl)) rfl
  | 29, _ => exact sk_mem (ck_6 _ (List.mem_of_getElem? (i := 65) rfl)) rfl
  | 30, _ => exact sk_mem (ck_6 _ (List.mem_of_getElem? (i := 67) rfl)) rfl
  | 31, _ => exact sk_mem (ck_6 _ (List.mem_of_getElem? (i := 69) rfl)) rfl
  | 32, _ => exact sk_mem (ck_6 _ (List.mem_of_getElem? (i := 71) rfl)) rfl
  | 33, _ => exact sk_mem (ck_6 _ (List.mem_of_getElem? (i := 73) rfl)) rfl
  | 34, _ => exact sk_mem (ck_6 _ (List.mem_of_getElem? (i := 75) rfl)) rfl
  | 35, _ => exact sk_mem (ck_6 _ (List.mem_of_getElem? (i := 77) rfl)) rfl
  | 36, _ => exact sk_mem (ck_6 _ (List.mem_of_getElem? (i := 79) rfl)) rfl
  | 37, _ => exact sk_mem (ck_6 _ (List.mem_of_getElem? (i := 81) rfl)) rfl
  | 38, _ => exact sk_mem (ck_6 _ (List.mem_of_getElem? (i := 83) rfl)) rfl
  | 39, _ => exact sk_mem (ck_6 _ (List.mem_of_getElem? (i := 85) rfl)) rfl
  | 40, _ => exact sk_mem (ck_6 _ (List.mem_of_getElem? (i := 87) rfl)) rfl
  | 41, _ => exact sk_mem (ck_6 _ (List.mem_of_getElem? (i := 89) rfl)) rfl
  | 42, _ => exact sk_mem (ck_6 _ (List.mem_of_getElem? (i := 91) rfl)) rfl
  | 43, _ => exact sk_mem (ck_6 _ (List.mem_of_getElem? (i := 93) rfl)) rfl
  | 44, _ => exact sk_mem (ck_6 _ (List.mem_of_getElem? (i := 95) rfl)) rfl
  | 45, _ => exact sk_mem (ck_6 _ (List.mem_of_getElem? (i := 97) rfl)) rfl
  | 46, _ => exact sk_mem (ck_6 _ (List.mem_of_getElem? (i := 99) rfl)) rfl
  | 47, _ => exact sk_mem (ck_6 _ (List.mem_of_getElem? (i := 101) rfl)) rfl
  | 48, _ => exact sk_mem (ck_6 _ (List.mem_of_getElem? (i := 103) rfl)) rfl
  | 49, _ => exact sk_mem (ck_6 _ (List.mem_of_getElem? (i := 105) rfl)) rfl
  | 50, _ => exact sk_mem (ck_6 _ (List.mem_of_getElem? (i := 107) rfl)) rfl
  | 51, _ => exact sk_mem (ck_6 _ (List.mem_of_getElem? (i := 109) rfl)) rfl
  | 52, _ => exact sk_mem (ck_6 _ (List.mem_of_getElem? (i := 111) rfl)) rfl
  | 53, _ => exact sk_mem (ck_6 _ (List.mem_of_getElem? (i := 113) rfl)) rfl
  | 54, _ => exact sk_mem (ck_6 _ (List.mem_of_getElem? (i := 115) rfl)) rfl
  | 55, _ => exact sk_mem (ck_6 _ (List.mem_of_getElem? (i := 117) rfl)) rfl
  | 56, _ => exact sk_mem (ck_6 _ (List.mem_of_getElem? (i := 119) rfl)) rfl
  | 57, _ => exact sk_mem (ck_6 _ (List.mem_of_getElem? (i := 121) rfl)) rfl
  | 58, _ => exact sk_mem (ck_6 _ (List.mem_of_getElem? (i := 123) rfl)) rfl
  | 59, _ => exact sk_mem (ck_6 _ (List.mem_of_getElem? (i := 125) rfl)) rfl
  | 60, _ => exact sk_mem (ck_6 _ (List.mem_of_getElem? (i := 127) rfl)) rfl
  | 61, _ => exact sk_mem (ck_6 _ (List.mem_of_getElem? (i := 129) rfl)) rfl
  | 62, _ => exact sk_mem (ck_6 _ (List.mem_of_getElem? (i := 131) rfl)) rfl
  | 63, _ => exact sk_mem (ck_6 _ (List.mem_of_getElem? (i := 133) rfl)) rfl
  | 64, _ => exact sk_mem (ck_6 _ (List.mem_of_getElem? (i := 135) rfl)) rfl
  | 65, _ => exact sk_mem (ck_6 _ (List.mem_of_getElem? (i := 137) rfl)) rfl
  | 66, _ => exact sk_mem (ck_6 _ (List.mem_of_getElem? (i := 139) rfl)) rfl
  | 67, _ => exact sk_mem (ck_6 _ (List.mem_of_getElem? (i := 141) rfl)) rfl
  | 68, _ => exact sk_mem (ck_6 _ (List.mem_of_getElem? (i := 143) rfl)) rfl
  | 69, _ => exact sk_mem (ck_6 _ (List.mem_of_getElem? (i := 145) rfl)) rfl
  | 70, _ => exact sk_mem (ck_6 _ (List.mem_of_getElem? (i := 147) rfl)) rfl
  | 71, _ => exact sk_mem (ck_6 _ (List.mem_of_getElem? (i := 149) rfl)) rfl
  | 72, _ => exact sk_mem (ck_6 _ (List.mem_of_getElem? (i := 151) rfl)) rfl
  | 73, _ => exact sk_mem (ck_6 _ (List.mem_of_getElem? (i := 153) rfl)) rfl
  | 74, _ => exact sk_mem (ck_6 _ (List.mem_of_getElem? (i := 155) rfl)) rfl
  | 75, _ => exact sk_mem (ck_6 _ (List.mem_of_getElem? (i := 157) rfl)) rfl
  | 76, _ => exact sk_mem (ck_6 _ (List.mem_of_getElem? (i := 159) rfl)) rfl
  | 77, _ => exact sk_mem (ck_6 _ (List.mem_of_getElem? (i := 161) rfl)) rfl
  | 78, _ => exact sk_mem (ck_6 _ (List.mem_of_getElem? (i := 163) rfl)) rfl
  | 79, _ => exact sk_mem (ck_6 _ (List.mem_of_getElem? (i := 165) rfl)) rfl
  | 80, _ => exact sk_mem (ck_6 _ (List.mem_of_getElem? (i := 167) rfl)) rfl
  | 81, _ => exact sk_mem (ck_6 _ (List.mem_of_getElem? (i := 169) rfl)) rfl
  | 82, _ => exact sk_mem (ck_6 _ (List.mem_of_getElem? (i := 171) rfl)) rfl
  | 83, _ => exact sk_mem (ck_6 _ (List.mem_of_getElem? (i := 173) rfl)) rfl
  | 84, _ => exact sk_mem (ck_6 _ (List.mem_of_getElem? (i := 175) rfl)) rfl
  | 85, _ => exact sk_mem (ck_6 _ (List.mem_of_getElem? (i := 177) rfl)) rfl
  | 86, _ => exact sk_mem (ck_6 _ (List.mem_of_getElem? (i := 179) rfl)) rfl
  | 87, _ => exact sk_mem (ck_6 _ (List.mem_of_getElem? (i := 181) rfl)) rfl
  | 88, _ => exact sk_mem (ck_6 _ (List.mem_of_getElem? (i := 183) rfl)) rfl
  | 89, _ => exact sk_mem (ck_6 _ (List.mem_of_getElem? (i := 185) rfl)) rfl
  | 90, _ => exact sk_mem (ck_6 _ (List.mem_of_getElem? (i := 187) rfl)) rfl
  | 91, _ => exact sk_mem (ck_6 _ (List.mem_of_getElem? (i := 189) rfl)) rfl
  | n + 92, h => exact absurd h (by omega)
/-! The frame of all contracts here: one list of words for all methods (wsL_law), one list of array classes, a world in and a world out. -/
theorem wsL_good : ∀ w ∈ wsL_law, ((w.onTables && w.keeps) = true ∨ ∃ ty, w = .arrayClass ty) := fun w h => good_of_word (List.mem_filter.mp h).2
abbrev skC (y : MethodName) (cc : ByteArray) (n : Nat) (r : Option FieldType) : List Cond := Cond.code y cc n r :: wsL_law
abbrev skSt : String := "SameKeeper$State"
abbrev skT (cI cJ cC cZ cS : ClassId) : List (ClassId × FieldType) := [(cI, .int), (cJ, .long), (cC, .char), (cZ, .boolean), (cS, .object skSt)]
abbrev skHost : String := "SameKeeper"
def skN (U : State) : Prop := va_Nw (.methodLinkNest RX11 48 yX2_init skHost) U ∧ va_Nw (.methodLinkNest RX11 58 yX7_init skHost) U ∧ va_Nw (.methodLinkNest RX11 75 yX9_init skHost) U ∧ va_Nw (.methodLinkNest RX2 11 yX0_init skHost) U ∧ va_Nw (.methodLinkNest RX4 32 yX7_init skHost) U ∧ va_Nw (.methodLinkNest RX5 11 yX0_init skHost) U
def skK (D : va_G) (tys : List (ClassId × FieldType)) (U : State) : Prop := va_K D vwCl tys U ∧ va_AO skSt U ∧ skN U
theorem skK.warm {D : va_G} {tys : List (ClassId × FieldType)} {s U : State} (h : skK D tys s) (hW : s.WarmedH U.vm) : skK D tys U := ⟨va_K.moved hW.alike h.1, va_AO.moved hW.alike h.2.1, va_Nw.warmM hW h.2.2.1, va_Nw.warmM hW h.2.2.2.1, va_Nw.warmM hW h.2.2.2.2.1, va_Nw.warmM hW h.2.2.2.2.2.1, va_Nw.warmM hW h.2.2.2.2.2.2.1, va_Nw.warmM hW h.2.2.2.2.2.2.2⟩
theorem skK.same {D : va_G} {tys : List (ClassId × FieldType)} {u U : State} (h : skK D tys u) (e : u.vm = U.vm) (ha : u.vm.Alike U.vm) : skK D tys U := ⟨va_K.moved ha h.1, va_AO.moved ha h.2.1, va_Nw.same rfl e h.2.2.1, va_Nw.same rfl e h.2.2.2.1, va_Nw.same rfl e h.2.2.2.2.1, va_Nw.same rfl e h.2.2.2.2.2.1, va_Nw.same rfl e h.2.2.2.2.2.2.1, va_Nw.same rfl e h.2.2.2.2.2.2.2⟩
abbrev skPre (D : va_G) (tys : List (ClassId × FieldType)) (av : List Value) (sz : Nat) (w : va_W) : Array Value → State → Prop := va_Pc av (fun U => U.heap.size = sz ∧ va_P D vwCl w U.heap ∧ skK D tys U ∧ va_D (fun _ => True) w)
abbrev skB (D : va_G) (tys : List (ClassId × FieldType)) (A : Nat → Prop) (u : va_W) (t : State) : Prop := va_P D vwCl u t.heap ∧ skK D tys t ∧ va_D A u
abbrev skI (D : va_G) (tys : List (ClassId × FieldType)) (post : Int32 → va_W → Prop) (A : Nat → Prop) : Array Value → State → Outcome → State → Prop := va_Qi post (skB D tys A) A
abbrev skL (D : va_G) (tys : List (ClassId × FieldType)) (post : Int64 → va_W → Prop) (A : Nat → Prop) : Array Value → State → Outcome → State → Prop := va_Ql post (skB D tys A) A
abbrev skV (D : va_G) (tys : List (ClassId × FieldType)) (post : va_W → Prop) (A : Nat → Prop) : Array Value → State → Outcome → State → Prop := va_Qv post (skB D tys A) A
/-- a contract: any heap that holds the world w -/
def skM (l : Launch) (y : MethodName) (cc : ByteArray) (maxL : Nat) (ret : Option FieldType) (fr lo mc ms : Nat) (D : va_G) (tys : List (ClassId × FieldType)) (av : List Value) (w : va_W) (Qc : (Nat → Prop) → Array Value → State → Outcome → State → Prop) : Prop :=
  ∀ sz : Nat, Met l y (skC y cc maxL ret) { frames := fr, cells := mc, slots := ms, locals := lo } (skPre D tys av sz w) (Qc (va_A w sz)) mc ms (va_A w sz)
def skEnv (p : Program) (s : State) (m : MethodId) (meth : Method) (c : Code) (cc : ByteArray) (ret : Option FieldType) (maxL : Nat) (y : MethodName) (av : List Value) (D : va_G) (tys : List (ClassId × FieldType)) (A : Nat → Prop) : Prop :=
  p.tables.exec = Jvm.exec ∧ c.code = cc ∧ meth.sig.returnType = ret ∧ c.maxLocals = maxL ∧ meth.locks = false ∧ meth.name = y.name ∧ s.vm.findClass y.cls = some m.cls ∧ (∀ w ∈ wsL_law, w.before av.toArray s = true) ∧ skK D tys s ∧ (∀ q, s.heap.size ≤ q → A q)
theorem skM_of {l : Launch} {y : MethodName} {cc : ByteArray} {maxL : Nat} {ret : Option FieldType} {fr lo mc ms : Nat} {D : va_G} {tys : List (ClassId × FieldType)} {av : List Value} {w : va_W} {Qc : (Nat → Prop) → Array Value → State → Outcome → State → Prop}
    (hy : plainFor y = true) (hlen : (lg_sl av).length ≤ maxL)
    (body : ∀ (p : Program) (e : Env) (s : State) (m : MethodId) (below : List Frame) (meth : Method) (c : Code) (A : Nat → Prop) (ls : Array Slot), skEnv p s m meth c cc ret maxL y av D tys A → va_P D vwCl w s.heap → va_D A w → lv_has ls maxL (lv_args 0 av) →
      W p l e { frames := fr, cells := mc, slots := ms, locals := lo } s m av.toArray below meth c s.heap [] 0 0 (MQ below (Qc A) av.toArray s mc ms A) (F0 m 0 ls [])) : skM l y cc maxL ret fr lo mc ms D tys av w Qc := by
  intro sz
  refine MetFree.of_bodySF (code := cc) (maxLocals := maxL) (ret := ret) hy ?_ ?_
  · intro args s m h hn
    obtain ⟨meth, c, h1, h2, h3, h4, h5, h6, -, -⟩ := Cond.code_spec hn (atoms_spec (ws := skC y cc maxL ret) h _ List.mem_cons_self)
    exact ⟨meth, c, h1, h2, h3, h4, h5, h6⟩
  · intro p e s m args below meth c s₁ B hml hv _
    have hh0 : s₁.heap = s.heap := by rw [B.state]; rfl
    obtain ⟨rfl, hsz, hP, hK, hD0⟩ := hv
    have hts := atoms_spec (ws := skC y cc maxL ret) B.pre
    subst hsz
    have hD := hD0.self (sz := s.heap.size)
    have hl := lv_entry av (n := maxL) hlen
    have hw : W p l e { frames := fr, cells := mc, slots := ms, locals := lo } s m av.toArray below meth c s.heap [] 0 0 (MQ below (Qc (va_A w s.heap.size)) av.toArray s mc ms (va_A w s.heap.size)) (entryFrame m av.toArray maxL) := by
      rw [lg_entry_eq]
      exact body p e s m below meth c _ _ ⟨B.exec, B.bytes, B.returns, hml, B.notSynchronized, (name_of_methodNamed B.named B.method).1, findClass_of_methodNamed B.named, fun w hw => hts w (List.mem_cons_of_mem _ hw), hK, fun q h => Or.inr h⟩ hP hD hl
    obtain ⟨t, a1, o, b1, b2, b3⟩ := hw s₁ hh0 (Stand.of_body B)
    exact ⟨t, o, a1, b1, b2, ⟨b3.1, b3.2⟩⟩
section SkRows
variable {p : Program} {l : Launch} {e : Env} {R : Room} {s : State} {m : MethodId} {args : Array Value} {below : List Frame} {meth : Method} {c : Code} {H : Heap} {locs : List Loc} {cells slots : Nat} {Q : State → Prop}
variable {cc : ByteArray} {pc : Nat} {ls : Array Slot} {rest : List Value} {D : va_G} {tys : List (ClassId × FieldType)} {ws ws' : va_W} {A : Nat → Prop} {H0 : Heap} {a : Nat}
theorem sk_top {x : Int32} (y : Int32) (h : x = y) (k : W p l e R s m args below meth c H locs cells slots Q (F0 m pc ls (.int y :: rest))) : W p l e R s m args below meth c H locs cells slots Q (F0 m pc ls (.int x :: rest)) := by
  subst h; exact k
theorem sk_topl {x : Int64} (y : Int64) (h : x = y) (k : W p l e R s m args below meth c H locs cells slots Q (F0 m pc ls (.long y :: rest))) : W p l e R s m args below meth c H locs cells slots Q (F0 m pc ls (.long x :: rest)) := by
  subst h; exact k
theorem sk_get (hexec : p.tables.exec = Jvm.exec) (hb : c.code = cc) {own C : String} {T : u_T} {N ci index : Nat} (hts : ∀ w ∈ wsL_law, w.before args s = true) (hin : ∀ w ∈ u_ws C T N, w ∈ wsL_law) (hown : s.vm.findClass own = some m.cls) (hK : skK D tys s) (hP : va_P D vwCl ws H) (q0 : Nat) {fs : List Value} (he : ws[q0]? = some (a, .inr (ci, fs))) (hc : vwCl[ci]? = some (C, T, N)) (k : Nat) (hk : k < N) (hlink : Cond.fieldLink own index (T k).1 (T k).2.1 (T k).2.2.1 ∈ wsL_law) {v : Value} (hv : fs[k]? = some v) (hdg : decode cc pc = .ok (.getfield index, 3))
    (kk : W p l e R s m args below meth c H locs cells slots Q (F0 m (pc + 3) ls (v :: rest))) : W p l e R s m args below meth c H locs cells slots Q (F0 m pc ls (.ref a :: rest)) :=
  va_get hexec hb hts hin hown hK.1 hP q0 he hc k hk (hts _ hlink) (fun _ h9 => h9) hv hdg kk
theorem sk_put (hexec : p.tables.exec = Jvm.exec) (hb : c.code = cc) {own C : String} {T : u_T} {N ci index : Nat} (hts : ∀ w ∈ wsL_law, w.before args s = true) (hin : ∀ w ∈ u_ws C T N, w ∈ wsL_law) (ty0 : Nat → FieldType) (hty : ∀ k, k < N → parseFieldDescriptor (T k).2.2.1 = some (ty0 k)) (hnm : ∀ a, a < N → ∀ b, b < N → a ≠ b → (T a).2.1 ≠ (T b).2.1) (hown : s.vm.findClass own = some m.cls) (hK : skK D tys s) (hP : va_P D vwCl ws H) (hD : va_D A ws) (hS0 : va_S A H0 H locs) (q0 : Nat) {fs : List Value} (he : ws[q0]? = some (a, .inr (ci, fs))) (hc : vwCl[ci]? = some (C, T, N)) (k : Nat) (hk : k < N) (hlink : Cond.fieldLink own index (T k).1 (T k).2.1 (T k).2.2.1 ∈ wsL_law) (hfin : (T k).2.2.2 = false) {v : Value} (hn : narrow (ty0 k) v = v) (hfit : fits (ty0 k) v = true) (hl : k < fs.length)
    (hw' : ws.set q0 (a, .inr (ci, fs.set k v)) = ws') (hdg : decode cc pc = .ok (.putfield index, 3)) (kk : ∀ (H1 : Heap) (locs1 : List Loc), va_P D vwCl ws' H1 → va_D A ws' → va_S A H0 H1 locs1 → W p l e R s m args below meth c H1 locs1 cells slots Q (F0 m (pc + 3) ls rest)) : W p l e R s m args below meth c H locs cells slots Q (F0 m pc ls (v :: .ref a :: rest)) := by
  subst hw'
  exact va_put hexec hb hts hin ty0 hty hnm hown hK.1 hP hD hS0 q0 he hc k hk (hts _ hlink) (fun _ h9 => h9) hfin (hty k hk) hn hfit hl hdg kk
theorem sk_putF (hexec : p.tables.exec = Jvm.exec) (hb : c.code = cc) {own C : String} {T : u_T} {N ci index : Nat} (hts : ∀ w ∈ wsL_law, w.before args s = true) (hin : ∀ w ∈ u_ws C T N, w ∈ wsL_law) (ty0 : Nat → FieldType) (hty : ∀ k, k < N → parseFieldDescriptor (T k).2.2.1 = some (ty0 k)) (hnm : ∀ a, a < N → ∀ b, b < N → a ≠ b → (T a).2.1 ≠ (T b).2.1) (hown : s.vm.findClass own = some m.cls) (hK : skK D tys s) (hP : va_P D vwCl ws H) (hD : va_D A ws) (hS0 : va_S A H0 H locs) (q0 : Nat) {fs : List Value} (he : ws[q0]? = some (a, .inr (ci, fs))) (hc : vwCl[ci]? = some (C, T, N)) (k : Nat) (hk : k < N) (hlink : Cond.fieldLink own index (T k).1 (T k).2.1 (T k).2.2.1 ∈ wsL_law) (hfin : (T k).2.2.2 = true) (hin2 : meth.name = "<init>") (hdecl : (T k).1 = own) {v : Value} (hn : narrow (ty0 k) v = v) (hfit : fits (ty0 k) v = true) (hl : k < fs.length)
    (hw' : ws.set q0 (a, .inr (ci, fs.set k v)) = ws') (hdg : decode cc pc = .ok (.putfield index, 3)) (kk : ∀ (H1 : Heap) (locs1 : List Loc), va_P D vwCl ws' H1 → va_D A ws' → va_S A H0 H1 locs1 → W p l e R s m args below meth c H1 locs1 cells slots Q (F0 m (pc + 3) ls rest)) : W p l e R s m args below meth c H locs cells slots Q (F0 m pc ls (v :: .ref a :: rest)) := by
  subst hw'
  exact va_putF hexec hb hts hin ty0 hty hnm hown hK.1 hP hD hS0 q0 he hc k hk (hts _ hlink) (fun _ h9 => h9) hfin hin2 hdecl (hty k hk) hn hfit hl hdg kk
theorem sk_new (hexec : p.tables.exec = Jvm.exec) (hb : c.code = cc) {own C : String} {T : u_T} {N ci index k1 n1 : Nat} (hts : ∀ w ∈ wsL_law, w.before args s = true) (hin : ∀ w ∈ u_ws C T N, w ∈ wsL_law) (ty : Nat → FieldType) (hty : ∀ k, k < N → parseFieldDescriptor (T k).2.2.1 = some (ty k)) (hown : s.vm.findClass own = some m.cls) (hcl : Cond.classLink own index C ∈ wsL_law) (hinst : Cond.instantiable C N ∈ wsL_law) (hini : Cond.initialized C ∈ wsL_law)
    (hK : skK D tys s) (hP : va_P D vwCl ws H) (hD : va_D A ws) (hS : va_S A H0 H locs) (hA : ∀ q, H0.size ≤ q → A q) (hc : vwCl[ci]? = some (C, T, N)) {fs : List Value} (hfs : ∀ j, j < N → defaultValue (ty j) = vp_V fs j) (hk1 : cells + 1 ≤ k1) (hn1 : slots + N ≤ n1) (hcells : k1 ≤ R.cells) (hslots : n1 ≤ R.slots) (hdg : decode cc pc = .ok (.new index, 3))
    (kk : ∀ (q : Nat) (H1 : Heap), va_P D vwCl (ws ++ [(q, .inr (ci, fs))]) H1 → va_D A (ws ++ [(q, .inr (ci, fs))]) → va_S A H0 H1 locs → W p l e R s m args below meth c H1 locs k1 n1 Q (F0 m (pc + 3) ls (.ref q :: rest))) : W p l e R s m args below meth c H locs cells slots Q (F0 m pc ls rest) :=
  va_new hexec hb hts hin ty hty hown (hts _ hcl) (hts _ hinst) (hts _ hini) hK.1 hP hD hS hA hc hfs (Nat.le_trans hk1 hcells) (Nat.le_trans hn1 hslots) hdg (fun q H1 h1 h2 h3 => W.widen hk1 hn1 (kk q H1 h1 h2 h3))
theorem sk_newa (hexec : p.tables.exec = Jvm.exec) (hb : c.code = cc) {atype : ArrayType} {ty : FieldType} {cA : ClassId} {k1 n1 : Nat} (hts : ∀ w ∈ wsL_law, w.before args s = true) (harr : Cond.arrayClass ty ∈ wsL_law) (hty : newarray.typeOf atype = ty) (hRA : ∀ (U : State) (cB : ClassId), va_RA U cB ty → U.vm.findClass ("[" ++ ty.toString) = some cB) (t0 : Nat) (ht : tys[t0]? = some (cA, ty))
    (hK : skK D tys s) (hP : va_P D vwCl ws H) (hD : va_D A ws) (hS : va_S A H0 H locs) (hA : ∀ q, H0.size ≤ q → A q) {n : Int32} {N' : Nat} {a0 : vp_A} (ha : ∀ cA : ClassId, vp_cell cA a0 = arrV cA N' (fun _ => defaultValue ty)) (hn : ¬ n < 0) (hN : n.toNatClampNeg = N') (hbytes : N' * componentBytes ty ≤ 536870912) (hk1 : cells + 1 ≤ k1) (hn1 : slots + N' ≤ n1) (hcells : k1 ≤ R.cells) (hslots : n1 ≤ R.slots) (hdg : decode cc pc = .ok (.newarray atype, 2))
    (kk : ∀ (q : Nat) (H1 : Heap), va_P D vwCl (ws ++ [(q, .inl (cA, a0))]) H1 → va_D A (ws ++ [(q, .inl (cA, a0))]) → va_S A H0 H1 locs → W p l e R s m args below meth c H1 locs k1 n1 Q (F0 m (pc + 2) ls (.ref q :: rest))) : W p l e R s m args below meth c H locs cells slots Q (F0 m pc ls (.int n :: rest)) := by
  refine va_newa hexec hb (by rw [hty]; exact hts _ harr) hty hK.1 hP hD hS hA ha hn hN hbytes (Nat.le_trans hk1 hcells) (Nat.le_trans hn1 hslots) hdg (fun q cB H1 hK' hP' hD' hS' => ?_)
  have e1 : cB = cA := Option.some.inj ((hRA s cB ((hK'.2 tys.length (cB, ty) (by simp)).2)).symm.trans (hRA s cA (hK.1.2 t0 _ ht).2))
  subst e1
  exact W.widen hk1 hn1 (kk q H1 hP' hD' hS')
theorem sk_newq (hexec : p.tables.exec = Jvm.exec) (hb : c.code = cc) {own : String} {index k1 n1 : Nat} {cA : ClassId} (hts : ∀ w ∈ wsL_law, w.before args s = true) (hown : s.vm.findClass own = some m.cls) (hcl : Cond.classLink own index skSt ∈ wsL_law) (t0 : Nat) (ht : tys[t0]? = some (cA, .object skSt))
    (hK : skK D tys s) (hP : va_P D vwCl ws H) (hD : va_D A ws) (hS : va_S A H0 H locs) (hA : ∀ q, H0.size ≤ q → A q) {n : Int32} {N' : Nat} (hn : ¬ n < 0) (hN : n.toNatClampNeg = N') (hbytes : N' * 4 ≤ 536870912) (hk1 : cells + 1 ≤ k1) (hn1 : slots + N' ≤ n1) (hcells : k1 ≤ R.cells) (hslots : n1 ≤ R.slots) (hdg : decode cc pc = .ok (.anewarray index, 3))
    (kk : ∀ (q : Nat) (H1 : Heap), va_P D vwCl (ws ++ [(q, .inl (cA, N', .inr (.inr (.inr (.inr (fun _ => none))))))]) H1 → va_D A (ws ++ [(q, .inl (cA, N', .inr (.inr (.inr (.inr (fun _ => none))))))]) → va_S A H0 H1 locs → W p l e R s m args below meth c H1 locs k1 n1 Q (F0 m (pc + 3) ls (.ref q :: rest))) : W p l e R s m args below meth c H locs cells slots Q (F0 m pc ls (.int n :: rest)) := by
  refine va_newq hexec hb hown (hts _ hcl) hK.2.1 hK.1 hP hD hS hA hn hN hbytes (Nat.le_trans hk1 hcells) (Nat.le_trans hn1 hslots) hdg (fun q cB H1 hK' hP' hD' hS' => ?_)
  obtain ⟨_, _, _, _, _, f1⟩ := (hK'.2 tys.length (cB, .object skSt) (by simp)).2
  obtain ⟨_, _, _, _, _, f2⟩ := (hK.1.2 t0 _ ht).2
  have e1 : cB = cA := Option.some.inj (f1.symm.trans f2)
  subst e1
  exact W.widen hk1 hn1 (kk q H1 hP' hD' hS')
theorem sk_iast (hexec : p.tables.exec = Jvm.exec) (hb : c.code = cc) (hK : skK D tys s) (hP : va_P D vwCl ws H) (hD : va_D A ws) (hS : va_S A H0 H locs) (q0 t0 : Nat) {cA : ClassId} {n : Nat} {f : Nat → Int32} (ha : ws[q0]? = some (a, .inl (cA, n, .inl f))) (ht : tys[t0]? = some (cA, .int)) {i x : Int32} (hin : vp_in i n) (hw' : ws.set q0 (a, .inl (cA, n, .inl (upd f i.toNatClampNeg x))) = ws') (hdg : decode cc pc = .ok (.iastore, 1))
    (kk : ∀ (H1 : Heap) (locs1 : List Loc), va_P D vwCl ws' H1 → va_D A ws' → va_S A H0 H1 locs1 → W p l e R s m args below meth c H1 locs1 cells slots Q (F0 m (pc + 1) ls rest)) : W p l e R s m args below meth c H locs cells slots Q (F0 m pc ls (.int x :: .int i :: .ref a :: rest)) := by
  subst hw'
  exact va_iast hexec hb hK.1 hP hD hS q0 t0 ha ht hin hdg kk
theorem sk_iastO (hexec : p.tables.exec = Jvm.exec) (hb : c.code = cc) (hK : skK D tys s) (hP : va_P D vwCl ws H) (hD : va_D A ws) (hS : va_S A H0 H locs) (q0 t0 : Nat) {cA : ClassId} {n : Nat} {f : Nat → Int32} {ws' : (Nat → Int32) → va_W} (ha : ws[q0]? = some (a, .inl (cA, n, .inl f))) (ht : tys[t0]? = some (cA, .int)) {i x : Int32} (hin : vp_in i n) (hw' : ∀ f', ws.set q0 (a, .inl (cA, n, .inl f')) = ws' f') (hdg : decode cc pc = .ok (.iastore, 1))
    (kk : ∀ (f' : Nat → Int32) (H1 : Heap) (locs1 : List Loc), va_P D vwCl (ws' f') H1 → va_D A (ws' f') → va_S A H0 H1 locs1 → W p l e R s m args below meth c H1 locs1 cells slots Q (F0 m (pc + 1) ls rest)) : W p l e R s m args below meth c H locs cells slots Q (F0 m pc ls (.int x :: .int i :: .ref a :: rest)) :=
  va_iast hexec hb hK.1 hP hD hS q0 t0 ha ht hin hdg (fun H1 locs1 h1 h2 h3 => kk _ H1 locs1 ((hw' _) ▸ h1) ((hw' _) ▸ h2) h3)
theorem sk_vret {post : va_W → Prop} {mc ms : Nat} (hexec : p.tables.exec = Jvm.exec) (hb : c.code = cc) (hr : meth.sig.returnType = none) (hlocks : meth.locks = false) (hK : skK D tys s) (hP : va_P D vwCl ws H) (hD : va_D A ws) (hS : va_S A s.heap H locs) (hpost : post ws) (h1 : cells ≤ mc) (h2 : slots ≤ ms) (hdg : decode cc pc = .ok (.return_, 1)) :
    W p l e R s m args below meth c H locs cells slots (MQ below (skV D tys post A) args s mc ms A) (F0 m pc ls []) :=
  W.widen h1 h2 (W.vret hexec hb hr (fun t ht hW => ⟨⟨ws, rfl, hpost, by rw [ht]; exact hP, hK.warm hW, hD⟩, hS.F ht⟩) hS.2.2 hdg hlocks)
theorem sk_iret {post : Int32 → va_W → Prop} {mc ms : Nat} {v : Int32} {ty : FieldType} (hexec : p.tables.exec = Jvm.exec) (hb : c.code = cc) (hr : meth.sig.returnType = some ty) (hn : narrow ty (.int v) = .int v) (hlocks : meth.locks = false) (hK : skK D tys s) (hP : va_P D vwCl ws H) (hD : va_D A ws) (hS : va_S A s.heap H locs) (hpost : post v ws) (h1 : cells ≤ mc) (h2 : slots ≤ ms) (hdg : decode cc pc = .ok (.ireturn, 1)) :
    W p l e R s m args below meth c H locs cells slots (MQ below (skI D tys post A) args s mc ms A) (F0 m pc ls [.int v]) :=
  W.widen h1 h2 (W.zret hexec hb hr hn (fun t ht hW => ⟨⟨v, ws, rfl, hpost, by rw [ht]; exact hP, hK.warm hW, hD⟩, hS.F ht⟩) hS.2.2 hdg hlocks)
theorem sk_lret {post : Int64 → va_W → Prop} {mc ms : Nat} {v : Int64} (hexec : p.tables.exec = Jvm.exec) (hb : c.code = cc) (hr : meth.sig.returnType = some .long) (hlocks : meth.locks = false) (hK : skK D tys s) (hP : va_P D vwCl ws H) (hD : va_D A ws) (hS : va_S A s.heap H locs) (hpost : post v ws) (h1 : cells ≤ mc) (h2 : slots ≤ ms) (hdg : decode cc pc = .ok (.lreturn, 1)) :
    W p l e R s m args below meth c H locs cells slots (MQ below (skL D tys post A) args s mc ms A) (F0 m pc ls [.long v]) :=
  W.widen h1 h2 (W.lret hexec hb hr (fun t ht hW => ⟨⟨v, ws, rfl, hpost, by rw [ht]; exact hP, hK.warm hW, hD⟩, hS.F ht⟩) hS.2.2 hdg hlocks)
theorem sk_blind (D : va_G) (tys : List (ClassId × FieldType)) (av : List Value) (sz : Nat) (w : va_W) : FrameBlind (skPre D tys av sz w) := fun a U g mk q => by
  obtain ⟨q0, q1, qP, qK, qD⟩ := q
  exact ⟨q0, q1, qP, skK.same (u := U) (U := U.calling g mk a) qK rfl (Vm.Alike.refl U.vm), qD⟩
theorem sk_good {y : MethodName} {bytes : ByteArray} {maxL : Nat} {ret : Option FieldType} (h5 : Cond.code y bytes maxL ret ∈ wsL_law) : GoodIn wsL_law (skC y bytes maxL ret) := fun w hw => by
  rcases List.mem_cons.mp hw with rfl | h
  · exact ⟨h5, wsL_good _ h5⟩
  · exact ⟨h, wsL_good _ h⟩
abbrev skD (y : MethodName) (n : Nat) : Prop := y.cls ≠ "java/lang/invoke/MethodHandle" ∧ y.cls ≠ "java/lang/invoke/VarHandle" ∧ (parseMethodDescriptor y.desc).map (fun d => d.parameters.length) = some n
abbrev skR (R : Room) (fr lo mc ms maxL cells slots : Nat) : Prop := (fr + 1 ≤ R.frames ∧ 8 + (maxL + 11) + lo ≤ R.locals) ∧ cells + mc ≤ R.cells ∧ slots + ms ≤ R.slots
section SkCalls
variable {y : MethodName} {bytes : ByteArray} {maxL nL fr lo mc ms n index ci q0 N : Nat} {ret : Option FieldType} {own C : String} {b : Nat} {As st0 : List Value} {wc wr : va_W} {fs : List Value} {T : u_T}
theorem sk_preV (hK : skK D tys s) (hP : va_P D vwCl ws H) (hD : va_D A ws) (isC : List Nat) (hC : isC.map (fun i => ws[i]?) = wc.map some) (hnC : va_nd isC = true) (av : List Value) : PreS s H (skPre D tys av H.size wc) av := by
  have hPc : va_P D vwCl wc H := hP.sub isC (by
    have h9 : isC.filterMap (fun i => ws[i]?) = (isC.map (fun i => ws[i]?)).filterMap id := by rw [List.filterMap_map]; rfl
    rw [h9, hC]
    simp [List.filterMap_map])
  have hDc : va_D A wc := hD.sub isC hnC hC
  exact ⟨sk_blind D tys av H.size wc, fun U hU hW => ⟨rfl, by rw [hU], by rw [hU]; exact hPc, hK.warm hW, hDc.weaken (fun _ _ _ _ => trivial)⟩⟩
theorem sk_recv (hK : skK D tys s) (hP : va_P D vwCl ws H) (isC : List Nat) (hC : isC.map (fun i => ws[i]?) = wc.map some) (he : wc[q0]? = some (b, .inr (ci, fs))) (hc : vwCl[ci]? = some (C, T, N)) : ∃ cell : Cell, H[b]? = some cell ∧ cell.vm.isStatics = false ∧ s.vm.findClass C = some cell.cls := by
  have hPc : va_P D vwCl wc H := hP.sub isC (by
    have h9 : isC.filterMap (fun i => ws[i]?) = (isC.map (fun i => ws[i]?)).filterMap id := by rw [List.filterMap_map]; rfl
    rw [h9, hC]
    simp [List.filterMap_map])
  exact va_recv hK.1 hPc hc he
theorem sk_Vi {post : Int32 → va_W → Prop} (S : CallFix p m c cc nL s args wsL_law own) (hls : ls.size = nL) (hM : skM l y bytes maxL ret fr lo mc ms D tys (.ref b :: As) wc (skI D tys post))
    (h1 : Cond.methodLink own index y ∈ wsL_law) (h2 : Cond.instanceMethod y ∈ wsL_law) (h3 : Cond.selects C y y ∈ wsL_law) (h4 : Cond.initialized y.cls ∈ wsL_law) (h5 : Cond.code y bytes maxL ret ∈ wsL_law) (hd : skD y n) (hrm : skR R fr lo mc ms maxL cells slots)
    (hK : skK D tys s) (hP : va_P D vwCl ws H) (hD : va_D A ws) (hS : va_S A H0 H locs) (hA : ∀ q, H0.size ≤ q → A q) (isC isR : List Nat) (hC : isC.map (fun i => ws[i]?) = wc.map some) (hR : isR.map (fun i => ws[i]?) = wr.map some) (hnC : va_nd isC = true) (hn : va_nd isR = true) (hdis : ∀ i ∈ isR, i ∉ isC) (he : wc[q0]? = some (b, .inr (ci, fs))) (hc : vwCl[ci]? = some (C, T, N))
    (hlen : As.length = n) (hst : st0 = As.reverse ++ .ref b :: rest) (hcat : (rest.map fun v => v.category).sum ≤ 8) (hdg : decode cc pc = .ok (.invokevirtual index, 3))
    (kk : ∀ (r : Int32) (u : va_W) (H1 : Heap) (locs1 : List Loc), post r u → va_P D vwCl (wr ++ u) H1 → va_D A (wr ++ u) → va_S A H0 H1 locs1 → W p l e R s m args below meth c H1 locs1 (cells + mc) (slots + ms) Q (F0 m (pc + 3) ls (.int r :: rest))) : W p l e R s m args below meth c H locs cells slots Q (F0 m pc ls st0) := by
  have hts := S.2.2.2.2
  have hFc := va_free (wc := wc) hD hS hA isC hC
  have hpre := sk_preV hK hP hD isC hC hnC (.ref b :: As)
  refine va_calli (va_runV (As := As) (rest := rest) S (hM H.size) ⟨callB_of n hts (sk_good h5) rfl rfl rfl (hts _ h4) (hts _ h1) hd hrm.1, hts _ h2, hts _ h3⟩ ⟨hpre.1, sk_recv hK hP isC hC he hc, hpre.2⟩ rfl hlen hls hst (lv_room hcat) hdg hrm.2) hS (fun q _ h => hFc q h) hFc (fun r u t H1 locs1 ht hvm hw hB hz1 hk1 hS1 => ?_)
  obtain ⟨hP1, -, hD1⟩ := hB
  rw [ht] at hP1
  obtain ⟨hP', hD'⟩ := va_join (wr := wr) (w1 := u) hP hD isC isR hC hR hn hdis hk1 hFc hP1 hD1
  exact kk r u H1 locs1 hw hP' hD' hS1
theorem sk_Vl {post : Int64 → va_W → Prop} (S : CallFix p m c cc nL s args wsL_law own) (hls : ls.size = nL) (hM : skM l y bytes maxL ret fr lo mc ms D tys (.ref b :: As) wc (skL D tys post))
    (h1 : Cond.methodLink own index y ∈ wsL_law) (h2 : Cond.instanceMethod y ∈ wsL_law) (h3 : Cond.selects C y y ∈ wsL_law) (h4 : Cond.initialized y.cls ∈ wsL_law) (h5 : Cond.code y bytes maxL ret ∈ wsL_law) (hd : skD y n) (hrm : skR R fr lo mc ms maxL cells slots)
    (hK : skK D tys s) (hP : va_P D vwCl ws H) (hD : va_D A ws) (hS : va_S A H0 H locs) (hA : ∀ q, H0.size ≤ q → A q) (isC isR : List Nat) (hC : isC.map (fun i => ws[i]?) = wc.map some) (hR : isR.map (fun i => ws[i]?) = wr.map some) (hnC : va_nd isC = true) (hn : va_nd isR = true) (hdis : ∀ i ∈ isR, i ∉ isC) (he : wc[q0]? = some (b, .inr (ci, fs))) (hc : vwCl[ci]? = some (C, T, N))
    (hlen : As.length = n) (hst : st0 = As.reverse ++ .ref b :: rest) (hcat : (rest.map fun v => v.category).sum ≤ 8) (hdg : decode cc pc = .ok (.invokevirtual index, 3))
    (kk : ∀ (r : Int64) (u : va_W) (H1 : Heap) (locs1 : List Loc), post r u → va_P D vwCl (wr ++ u) H1 → va_D A (wr ++ u) → va_S A H0 H1 locs1 → W p l e R s m args below meth c H1 locs1 (cells + mc) (slots + ms) Q (F0 m (pc + 3) ls (.long r :: rest))) : W p l e R s m args below meth c H locs cells slots Q (F0 m pc ls st0) := by
  have hts := S.2.2.2.2
  have hFc := va_free (wc := wc) hD hS hA isC hC
  have hpre := sk_preV hK hP hD isC hC hnC (.ref b :: As)
  refine va_calll (va_runV (As := As) (rest := rest) S (hM H.size) ⟨callB_of n hts (sk_good h5) rfl rfl rfl (hts _ h4) (hts _ h1) hd hrm.1, hts _ h2, hts _ h3⟩ ⟨hpre.1, sk_recv hK hP isC hC he hc, hpre.2⟩ rfl hlen hls hst (lv_room hcat) hdg hrm.2) hS (fun q _ h => hFc q h) hFc (fun r u t H1 locs1 ht hvm hw hB hz1 hk1 hS1 => ?_)
  obtain ⟨hP1, -, hD1⟩ := hB
  rw [ht] at hP1
  obtain ⟨hP', hD'⟩ := va_join (wr := wr) (w1 := u) hP hD isC isR hC hR hn hdis hk1 hFc hP1 hD1
  exact kk r u H1 locs1 hw hP' hD' hS1
theorem sk_Vv {post : va_W → Prop} (S : CallFix p m c cc nL s args wsL_law own) (hls : ls.size = nL) (hM : skM l y bytes maxL ret fr lo mc ms D tys (.ref b :: As) wc (skV D tys post))
    (h1 : Cond.methodLink own index y ∈ wsL_law) (h2 : Cond.instanceMethod y ∈ wsL_law) (h3 : Cond.selects C y y ∈ wsL_law) (h4 : Cond.initialized y.cls ∈ wsL_law) (h5 : Cond.code y bytes maxL ret ∈ wsL_law) (hd : skD y n) (hrm : skR R fr lo mc ms maxL cells slots)
    (hK : skK D tys s) (hP : va_P D vwCl ws H) (hD : va_D A ws) (hS : va_S A H0 H locs) (hA : ∀ q, H0.size ≤ q → A q) (isC isR : List Nat) (hC : isC.map (fun i => ws[i]?) = wc.map some) (hR : isR.map (fun i => ws[i]?) = wr.map some) (hnC : va_nd isC = true) (hn : va_nd isR = true) (hdis : ∀ i ∈ isR, i ∉ isC) (he : wc[q0]? = some (b, .inr (ci, fs))) (hc : vwCl[ci]? = some (C, T, N))
    (hlen : As.length = n) (hst : st0 = As.reverse ++ .ref b :: rest) (hcat : (rest.map fun v => v.category).sum ≤ 8) (hdg : decode cc pc = .ok (.invokevirtual index, 3))
    (kk : ∀ (u : va_W) (H1 : Heap) (locs1 : List Loc), post u → va_P D vwCl (wr ++ u) H1 → va_D A (wr ++ u) → va_S A H0 H1 locs1 → W p l e R s m args below meth c H1 locs1 (cells + mc) (slots + ms) Q (F0 m (pc + 3) ls rest)) : W p l e R s m args below meth c H locs cells slots Q (F0 m pc ls st0) := by
  have hts := S.2.2.2.2
  have hFc := va_free (wc := wc) hD hS hA isC hC
  have hpre := sk_preV hK hP hD isC hC hnC (.ref b :: As)
  refine va_callv (va_runV (As := As) (rest := rest) S (hM H.size) ⟨callB_of n hts (sk_good h5) rfl rfl rfl (hts _ h4) (hts _ h1) hd hrm.1, hts _ h2, hts _ h3⟩ ⟨hpre.1, sk_recv hK hP isC hC he hc, hpre.2⟩ rfl hlen hls hst (lv_room hcat) hdg hrm.2) hS (fun q _ h => hFc q h) hFc (fun u t H1 locs1 ht hvm hw hB hz1 hk1 hS1 => ?_)
  obtain ⟨hP1, -, hD1⟩ := hB
  rw [ht] at hP1
  obtain ⟨hP', hD'⟩ := va_join (wr := wr) (w1 := u) hP hD isC isR hC hR hn hdis hk1 hFc hP1 hD1
  exact kk u H1 locs1 hw hP' hD' hS1
theorem sk_Iv {post : va_W → Prop} (S : CallFix p m c cc nL s args wsL_law own) (hls : ls.size = nL) (hM : skM l y bytes maxL none fr lo mc ms D tys (.ref b :: As) wc (skV D tys post))
    (h1 : Cond.methodLink own index y ∈ wsL_law) (h2 : Cond.instanceMethod y ∈ wsL_law) (h4 : Cond.initialized y.cls ∈ wsL_law) (h5 : Cond.code y bytes maxL none ∈ wsL_law) (hy : y.name = "<init>") (hd : skD y n) (hrm : skR R fr lo mc ms maxL cells slots)
    (hK : skK D tys s) (hP : va_P D vwCl ws H) (hD : va_D A ws) (hS : va_S A H0 H locs) (hA : ∀ q, H0.size ≤ q → A q) (isC isR : List Nat) (hC : isC.map (fun i => ws[i]?) = wc.map some) (hR : isR.map (fun i => ws[i]?) = wr.map some) (hnC : va_nd isC = true) (hn : va_nd isR = true) (hdis : ∀ i ∈ isR, i ∉ isC)
    (hlen : As.length = n) (hst : st0 = As.reverse ++ .ref b :: rest) (hcat : (rest.map fun v => v.category).sum ≤ 8) (hdg : decode cc pc = .ok (.invokespecial index, 3))
    (kk : ∀ (u : va_W) (H1 : Heap) (locs1 : List Loc), post u → va_P D vwCl (wr ++ u) H1 → va_D A (wr ++ u) → va_S A H0 H1 locs1 → W p l e R s m args below meth c H1 locs1 (cells + mc) (slots + ms) Q (F0 m (pc + 3) ls rest)) : W p l e R s m args below meth c H locs cells slots Q (F0 m pc ls st0) := by
  have hts := S.2.2.2.2
  have hFc := va_free (wc := wc) hD hS hA isC hC
  have hpre := sk_preV hK hP hD isC hC hnC (.ref b :: As)
  refine va_callv (va_runI (As := As) (rest := rest) S (hM H.size) ⟨callB_of n hts (sk_good h5) rfl rfl rfl (hts _ h4) (hts _ h1) hd hrm.1, hy, hts _ h2⟩ hpre rfl hlen hls hst (lv_room hcat) hdg hrm.2) hS (fun q _ h => hFc q h) hFc (fun u t H1 locs1 ht hvm hw hB hz1 hk1 hS1 => ?_)
  obtain ⟨hP1, -, hD1⟩ := hB
  rw [ht] at hP1
  obtain ⟨hP', hD'⟩ := va_join (wr := wr) (w1 := u) hP hD isC isR hC hR hn hdis hk1 hFc hP1 hD1
  exact kk u H1 locs1 hw hP' hD' hS1
theorem sk_INv {post : va_W → Prop} (S : CallFix p m c cc nL s args wsL_law own) (hls : ls.size = nL) (hM : skM l y bytes maxL none fr lo mc ms D tys (.ref b :: As) wc (skV D tys post))
    (h1 : va_Nw (.methodLinkNest own index y skHost) s) (h2 : Cond.instanceMethod y ∈ wsL_law) (h4 : Cond.initialized y.cls ∈ wsL_law) (h5 : Cond.code y bytes maxL none ∈ wsL_law) (hy : y.name = "<init>") (hd : skD y n) (hrm : skR R fr lo mc ms maxL cells slots)
    (hK : skK D tys s) (hP : va_P D vwCl ws H) (hD : va_D A ws) (hS : va_S A H0 H locs) (hA : ∀ q, H0.size ≤ q → A q) (isC isR : List Nat) (hC : isC.map (fun i => ws[i]?) = wc.map some) (hR : isR.map (fun i => ws[i]?) = wr.map some) (hnC : va_nd isC = true) (hn : va_nd isR = true) (hdis : ∀ i ∈ isR, i ∉ isC)
    (hlen : As.length = n) (hst : st0 = As.reverse ++ .ref b :: rest) (hcat : (rest.map fun v => v.category).sum ≤ 8) (hdg : decode cc pc = .ok (.invokespecial index, 3))
    (kk : ∀ (u : va_W) (H1 : Heap) (locs1 : List Loc), post u → va_P D vwCl (wr ++ u) H1 → va_D A (wr ++ u) → va_S A H0 H1 locs1 → W p l e R s m args below meth c H1 locs1 (cells + mc) (slots + ms) Q (F0 m (pc + 3) ls rest)) : W p l e R s m args below meth c H locs cells slots Q (F0 m pc ls st0) := by
  have hts := S.2.2.2.2
  have hFc := va_free (wc := wc) hD hS hA isC hC
  have hpre := sk_preV hK hP hD isC hC hnC (.ref b :: As)
  refine va_callv (va_runIN (As := As) (rest := rest) S (hM H.size) ⟨va_cnB n hts (sk_good h5) rfl rfl rfl h1 (hts _ h4) hd hrm.1, hy, hts _ h2⟩ hpre rfl hlen hls hst (lv_room hcat) hdg hrm.2) hS (fun q _ h => hFc q h) hFc (fun u t H1 locs1 ht hvm hw hB hz1 hk1 hS1 => ?_)
  obtain ⟨hP1, -, hD1⟩ := hB
  rw [ht] at hP1
  obtain ⟨hP', hD'⟩ := va_join (wr := wr) (w1 := u) hP hD isC isR hC hR hn hdis hk1 hFc hP1 hD1
  exact kk u H1 locs1 hw hP' hD' hS1
theorem sk_Si {post : Int32 → va_W → Prop} (S : CallFix p m c cc nL s args wsL_law own) (hls : ls.size = nL) (hM : skM l y bytes maxL ret fr lo mc ms D tys As wc (skI D tys post))
    (h1 : Cond.methodLink own index y ∈ wsL_law) (h2 : Cond.static y ∈ wsL_law) (h4 : Cond.initialized y.cls ∈ wsL_law) (h5 : Cond.code y bytes maxL ret ∈ wsL_law) (hd : skD y n) (hrm : skR R fr lo mc ms maxL cells slots)
    (hK : skK D tys s) (hP : va_P D vwCl ws H) (hD : va_D A ws) (hS : va_S A H0 H locs) (hA : ∀ q, H0.size ≤ q → A q) (isC isR : List Nat) (hC : isC.map (fun i => ws[i]?) = wc.map some) (hR : isR.map (fun i => ws[i]?) = wr.map some) (hnC : va_nd isC = true) (hn : va_nd isR = true) (hdis : ∀ i ∈ isR, i ∉ isC)
    (hlen : As.length = n) (hst : st0 = As.reverse ++ rest) (hcat : (rest.map fun v => v.category).sum ≤ 8) (hdg : decode cc pc = .ok (.invokestatic index, 3))
    (kk : ∀ (r : Int32) (u : va_W) (H1 : Heap) (locs1 : List Loc), post r u → va_P D vwCl (wr ++ u) H1 → va_D A (wr ++ u) → va_S A H0 H1 locs1 → W p l e R s m args below meth c H1 locs1 (cells + mc) (slots + ms) Q (F0 m (pc + 3) ls (.int r :: rest))) : W p l e R s m args below meth c H locs cells slots Q (F0 m pc ls st0) := by
  have hts := S.2.2.2.2
  have hFc := va_free (wc := wc) hD hS hA isC hC
  have hpre := sk_preV hK hP hD isC hC hnC As
  refine va_calli (va_runS (As := As) (rest := rest) S (hM H.size) ⟨callB_of n hts (sk_good h5) rfl rfl rfl (hts _ h4) (hts _ h1) hd hrm.1, hts _ h2⟩ hpre rfl hlen hls hst (lv_room hcat) hdg hrm.2) hS (fun q _ h => hFc q h) hFc (fun r u t H1 locs1 ht hvm hw hB hz1 hk1 hS1 => ?_)
  obtain ⟨hP1, -, hD1⟩ := hB
  rw [ht] at hP1
  obtain ⟨hP', hD'⟩ := va_join (wr := wr) (w1 := u) hP hD isC isR hC hR hn hdis hk1 hFc hP1 hD1
  exact kk r u H1 locs1 hw hP' hD' hS1
theorem sk_Sl {post : Int64 → va_W → Prop} (S : CallFix p m c cc nL s args wsL_law own) (hls : ls.size = nL) (hM : skM l y bytes maxL ret fr lo mc ms D tys As wc (skL D tys post))
    (h1 : Cond.methodLink own index y ∈ wsL_law) (h2 : Cond.static y ∈ wsL_law) (h4 : Cond.initialized y.cls ∈ wsL_law) (h5 : Cond.code y bytes maxL ret ∈ wsL_law) (hd : skD y n) (hrm : skR R fr lo mc ms maxL cells slots)
    (hK : skK D tys s) (hP : va_P D vwCl ws H) (hD : va_D A ws) (hS : va_S A H0 H locs) (hA : ∀ q, H0.size ≤ q → A q) (isC isR : List Nat) (hC : isC.map (fun i => ws[i]?) = wc.map some) (hR : isR.map (fun i => ws[i]?) = wr.map some) (hnC : va_nd isC = true) (hn : va_nd isR = true) (hdis : ∀ i ∈ isR, i ∉ isC)
    (hlen : As.length = n) (hst : st0 = As.reverse ++ rest) (hcat : (rest.map fun v => v.category).sum ≤ 8) (hdg : decode cc pc = .ok (.invokestatic index, 3))
    (kk : ∀ (r : Int64) (u : va_W) (H1 : Heap) (locs1 : List Loc), post r u → va_P D vwCl (wr ++ u) H1 → va_D A (wr ++ u) → va_S A H0 H1 locs1 → W p l e R s m args below meth c H1 locs1 (cells + mc) (slots + ms) Q (F0 m (pc + 3) ls (.long r :: rest))) : W p l e R s m args below meth c H locs cells slots Q (F0 m pc ls st0) := by
  have hts := S.2.2.2.2
  have hFc := va_free (wc := wc) hD hS hA isC hC
  have hpre := sk_preV hK hP hD isC hC hnC As
  refine va_calll (va_runS (As := As) (rest := rest) S (hM H.size) ⟨callB_of n hts (sk_good h5) rfl rfl rfl (hts _ h4) (hts _ h1) hd hrm.1, hts _ h2⟩ hpre rfl hlen hls hst (lv_room hcat) hdg hrm.2) hS (fun q _ h => hFc q h) hFc (fun r u t H1 locs1 ht hvm hw hB hz1 hk1 hS1 => ?_)
  obtain ⟨hP1, -, hD1⟩ := hB
  rw [ht] at hP1
  obtain ⟨hP', hD'⟩ := va_join (wr := wr) (w1 := u) hP hD isC isR hC hR hn hdis hk1 hFc hP1 hD1
  exact kk r u H1 locs1 hw hP' hD' hS1
theorem sk_Sv {post : va_W → Prop} (S : CallFix p m c cc nL s args wsL_law own) (hls : ls.size = nL) (hM : skM l y bytes maxL ret fr lo mc ms D tys As wc (skV D tys post))
    (h1 : Cond.methodLink own index y ∈ wsL_law) (h2 : Cond.static y ∈ wsL_law) (h4 : Cond.initialized y.cls ∈ wsL_law) (h5 : Cond.code y bytes maxL ret ∈ wsL_law) (hd : skD y n) (hrm : skR R fr lo mc ms maxL cells slots)
    (hK : skK D tys s) (hP : va_P D vwCl ws H) (hD : va_D A ws) (hS : va_S A H0 H locs) (hA : ∀ q, H0.size ≤ q → A q) (isC isR : List Nat) (hC : isC.map (fun i => ws[i]?) = wc.map some) (hR : isR.map (fun i => ws[i]?) = wr.map some) (hnC : va_nd isC = true) (hn : va_nd isR = true) (hdis : ∀ i ∈ isR, i ∉ isC)
    (hlen : As.length = n) (hst : st0 = As.reverse ++ rest) (hcat : (rest.map fun v => v.category).sum ≤ 8) (hdg : decode cc pc = .ok (.invokestatic index, 3))
    (kk : ∀ (u : va_W) (H1 : Heap) (locs1 : List Loc), post u → va_P D vwCl (wr ++ u) H1 → va_D A (wr ++ u) → va_S A H0 H1 locs1 → W p l e R s m args below meth c H1 locs1 (cells + mc) (slots + ms) Q (F0 m (pc + 3) ls rest)) : W p l e R s m args below meth c H locs cells slots Q (F0 m pc ls st0) := by
  have hts := S.2.2.2.2
  have hFc := va_free (wc := wc) hD hS hA isC hC
  have hpre := sk_preV hK hP hD isC hC hnC As
  refine va_callv (va_runS (As := As) (rest := rest) S (hM H.size) ⟨callB_of n hts (sk_good h5) rfl rfl rfl (hts _ h4) (hts _ h1) hd hrm.1, hts _ h2⟩ hpre rfl hlen hls hst (lv_room hcat) hdg hrm.2) hS (fun q _ h => hFc q h) hFc (fun u t H1 locs1 ht hvm hw hB hz1 hk1 hS1 => ?_)
  obtain ⟨hP1, -, hD1⟩ := hB
  rw [ht] at hP1
  obtain ⟨hP', hD'⟩ := va_join (wr := wr) (w1 := u) hP hD isC isR hC hR hn hdis hk1 hFc hP1 hD1
  exact kk u H1 locs1 hw hP' hD' hS1
end SkCalls
end SkRows
theorem sk_out {x : Int32} {n : Nat} (h : ∀ k : Nat, k ≤ n → ¬ x = Int32.ofNat k) : x.toInt < 0 ∨ (n : Int) < x.toInt := by
  by_cases h0 : x.toInt < 0
  · exact Or.inl h0
  · refine Or.inr (Int.not_le.mp (fun h1 => h x.toInt.toNat (by omega) ?_))
    refine Int32.toInt_inj.mp ?_
    have h2 : x.toInt < 2 ^ 31 := Int32.toInt_lt x
    have h3 : (Int32.ofNat x.toInt.toNat).toInt = (x.toInt.toNat : Int) := nI_toInt (by omega)
    rw [h3]
    omega
/-! numbers that are small: Int32 by Nat -/
theorem nmul (a b : Nat) : nI a * nI b = nI (a * b) := by
  unfold nI
  exact (Int32.ofNat_mul a b).symm
theorem nsub (a b : Nat) (h : b ≤ a) : nI a - nI b = nI (a - b) := by
  have h1 : nI (a - b) + nI b = nI a := by rw [nI_add, Nat.sub_add_cancel h]
  rw [← h1, Int32.add_sub_cancel]
theorem ndiv (a b : Nat) (ha : a < 2147483648) (hb : b < 2147483648) (hb0 : 0 < b) : nI a / nI b = nI (a / b) := by
  have h1 : a / b < 2 ^ 31 := Nat.lt_of_le_of_lt (Nat.div_le_self a b) ha
  refine Int32.toInt_inj.mp ?_
  rw [Jvm.Kit.i32_div (by rw [nI_toInt ha, nI_toInt hb]; omega), nI_toInt ha, nI_toInt hb, nI_toInt h1]
  rw [Int.tdiv_eq_ediv_of_nonneg (by omega)]
  exact (Int.natCast_ediv a b).symm
theorem nrem (a b : Nat) (ha : a < 2147483648) (hb : b < 2147483648) (hb0 : 0 < b) : nI a - nI a / nI b * nI b = nI (a % b) := by
  rw [ndiv a b ha hb hb0, nmul, nsub a (a / b * b) (Nat.div_mul_le_self a b)]
  congr 1
  have h1 := Nat.div_add_mod a b
  have h2 := Nat.mul_comm b (a / b)
  omega
theorem ninc (a k : Nat) (h : Int32.ofInt (k : Int) = nI k) : nI a + Int32.ofInt (k : Int) = nI (a + k) := by
  rw [h, nI_add]
theorem nrd (a : Nat → Nat) (k : Nat) (h : k < 2147483648) : (fun j => nI (a j)) (nI k).toNatClampNeg = nI (a k) := by
  show nI (a (nI k).toNatClampNeg) = nI (a k)
  rw [nI_clamp h]
theorem vin (k n : Nat) (h : k < n) (hn : n < 2147483648) : vp_in (nI k) n := nI_in h hn
theorem nlt (a b : Nat) (ha : a < 2147483648) (hb : b < 2147483648) : nI a < nI b ↔ a < b := nI_ltI ha hb
theorem nle (a b : Nat) (ha : a < 2147483648) (hb : b < 2147483648) : nI a ≤ nI b ↔ a ≤ b := nI_leI ha hb
theorem neq (a b : Nat) (ha : a < 2147483648) (hb : b < 2147483648) : nI a = nI b ↔ a = b := nI_eq ha hb
theorem nof (x : Int32) (h : ¬ x < 0) : ∃ j : Nat, j < 2147483648 ∧ x = nI j := nI_of h
theorem nof' (x : Int32) (h : 0 ≤ x) : ∃ j : Nat, j < 2147483648 ∧ x = nI j := nI_of (Int32.not_lt.mpr h)
def updN (a : Nat → Nat) (k v : Nat) : Nat → Nat := fun j => if j = k then v else a j
theorem updN_le {a : Nat → Nat} {k v B : Nat} (h : ∀ j, a j ≤ B) (hv : v ≤ B) : ∀ j, updN a k v j ≤ B := fun j => by
  unfold updN
  by_cases hj : j = k
  · rw [if_pos hj]; exact hv
  · rw [if_neg hj]; exact h j
theorem updN_fun (a : Nat → Nat) (k v : Nat) (h : k < 2147483648) : upd (fun j => nI (a j)) (nI k).toNatClampNeg (nI v) = fun j => nI (updN a k v j) := by
  funext j
  rw [nI_clamp h]
  unfold upd updN
  by_cases hj : j = k
  · rw [if_pos hj, if_pos hj]
  · rw [if_neg hj, if_neg hj]
section SkNums
variable {p : Program} {l : Launch} {e : Env} {R : Room} {s : State} {m : MethodId} {args : Array Value} {below : List Frame} {meth : Method} {c : Code} {H : Heap} {locs : List Loc} {cells slots : Nat} {Q : State → Prop}
variable {cc : ByteArray} {pc : Nat} {ls : Array Slot} {rest : List Value} {D : va_G} {tys : List (ClassId × FieldType)} {ws : va_W} {A : Nat → Prop} {H0 : Heap} {a : Nat}
/-- a row of small numbers: what is put keeps its bound -/
theorem sk_iastN (hexec : p.tables.exec = Jvm.exec) (hb : c.code = cc) (hK : skK D tys s) (hP : va_P D vwCl ws H) (hD : va_D A ws) (hS : va_S A H0 H locs) (q0 t0 : Nat) {cA : ClassId} {n B : Nat} {f : Nat → Nat} {ws' : (Nat → Nat) → va_W} (ha : ws[q0]? = some (a, .inl (cA, n, .inl (fun j => nI (f j))))) (ht : tys[t0]? = some (cA, .int)) {k v : Nat} (hk : k < n) (hn : n < 2147483648) (hf : ∀ j, f j ≤ B) (hv : v ≤ B) (hw' : ∀ f', ws.set q0 (a, .inl (cA, n, .inl (fun j => nI (f' j)))) = ws' f') (hdg : decode cc pc = .ok (.iastore, 1))
    (kk : ∀ (f' : Nat → Nat) (H1 : Heap) (locs1 : List Loc), (∀ j, f' j ≤ B) → va_P D vwCl (ws' f') H1 → va_D A (ws' f') → va_S A H0 H1 locs1 → W p l e R s m args below meth c H1 locs1 cells slots Q (F0 m (pc + 1) ls rest)) : W p l e R s m args below meth c H locs cells slots Q (F0 m pc ls (.int (nI v) :: .int (nI k) :: .ref a :: rest)) := by
  refine va_iast hexec hb hK.1 hP hD hS q0 t0 ha ht (vin k n hk hn) hdg (fun H1 locs1 h1 h2 h3 => ?_)
  rw [updN_fun f k v (by omega)] at h1 h2
  exact kk _ H1 locs1 (updN_le hf hv) ((hw' _) ▸ h1) ((hw' _) ▸ h2) h3
theorem sk_lastO (hexec : p.tables.exec = Jvm.exec) (hb : c.code = cc) (hK : skK D tys s) (hP : va_P D vwCl ws H) (hD : va_D A ws) (hS : va_S A H0 H locs) (q0 t0 : Nat) {cA : ClassId} {n : Nat} {f : Nat → Int64} {ws' : (Nat → Int64) → va_W} (ha : ws[q0]? = some (a, .inl (cA, n, .inr (.inl f)))) (ht : tys[t0]? = some (cA, .long)) {i : Int32} {x : Int64} (hin : vp_in i n) (hw' : ∀ f', ws.set q0 (a, .inl (cA, n, .inr (.inl f'))) = ws' f') (hdg : decode cc pc = .ok (.lastore, 1))
    (kk : ∀ (f' : Nat → Int64) (H1 : Heap) (locs1 : List Loc), va_P D vwCl (ws' f') H1 → va_D A (ws' f') → va_S A H0 H1 locs1 → W p l e R s m args below meth c H1 locs1 cells slots Q (F0 m (pc + 1) ls rest)) : W p l e R s m args below meth c H locs cells slots Q (F0 m pc ls (.long x :: .int i :: .ref a :: rest)) :=
  va_last hexec hb hK.1 hP hD hS q0 t0 ha ht hin hdg (fun H1 locs1 h1 h2 h3 => kk _ H1 locs1 ((hw' _) ▸ h1) ((hw' _) ▸ h2) h3)
theorem sk_topv {x : Value} (y : Value) (h : x = y) (k : W p l e R s m args below meth c H locs cells slots Q (F0 m pc ls (y :: rest))) : W p l e R s m args below meth c H locs cells slots Q (F0 m pc ls (x :: rest)) := by
  subst h; exact k
theorem sk_ast {ws' : va_W} (hexec : p.tables.exec = Jvm.exec) (hb : c.code = cc) (hK : skK D tys s) (hP : va_P D vwCl ws H) (hD : va_D A ws) (hS : va_S A H0 H locs) (q0 t0 qk ci : Nat) {cA : ClassId} {r : vw_C} {n v : Nat} {vs : List Value} {f : Nat → Option Nat} (ha : ws[q0]? = some (a, .inl (cA, n, .inr (.inr (.inr (.inr f)))))) (ht : tys[t0]? = some (cA, .object r.1)) (hv : ws[qk]? = some (v, .inr (ci, vs))) (hc : vwCl[ci]? = some r) {i : Int32} (hin : vp_in i n) (hw' : ws.set q0 (a, .inl (cA, n, .inr (.inr (.inr (.inr (va_up f i.toNatClampNeg (some v))))))) = ws') (hdg : decode cc pc = .ok (.aastore, 1))
    (kk : ∀ (H1 : Heap) (locs1 : List Loc), va_P D vwCl ws' H1 → va_D A ws' → va_S A H0 H1 locs1 → W p l e R s m args below meth c H1 locs1 cells slots Q (F0 m (pc + 1) ls rest)) : W p l e R s m args below meth c H locs cells slots Q (F0 m pc ls (.ref v :: .int i :: .ref a :: rest)) := by
  subst hw'
  exact va_astq hexec hb hK.1 hP hD hS q0 t0 qk ci ha ht hv hc hin hdg kk
end SkNums
theorem nbool (b : Nat) (h : b ≤ 1) : narrow .boolean (.int (nI b)) = .int (nI b) := by
  match b, h with
  | 0, _ => rfl
  | 1, _ => rfl
  | n + 2, h => exact absurd h (by omega)
theorem sk_out2 {x : Int32} (a b : Nat) (h : ∀ k : Nat, a ≤ k → k ≤ b → ¬ x = Int32.ofNat k) : x.toInt < (a : Int) ∨ (b : Int) < x.toInt := by
  by_cases h0 : x.toInt < (a : Int)
  · exact Or.inl h0
  · refine Or.inr (Int.not_le.mp (fun h1 => h x.toInt.toNat (by omega) (by omega) ?_))
    refine Int32.toInt_inj.mp ?_
    have h2 : x.toInt < 2 ^ 31 := Int32.toInt_lt x
    have h3 : (Int32.ofNat x.toInt.toNat).toInt = (x.toInt.toNat : Int) := nI_toInt (by omega)
    rw [h3]
    omega
theorem ndec1 (a : Nat) (h : 1 ≤ a) : nI a + Int32.ofInt (-1) = nI (a - 1) := by
  obtain ⟨b, rfl⟩ : ∃ b, a = b + 1 := ⟨a - 1, by omega⟩
  rw [Nat.add_sub_cancel, ← nI_pred b]
  show nI (b + 1) + (-1) = nI (b + 1) - 1
  exact (Int32.sub_eq_add_neg _ _).symm
theorem nmax0 (x : Int32) : ∃ k : Nat, k < 2147483648 ∧ (if x < 0 then 0 else x) = nI k := by
  by_cases h : x < 0
  · exact ⟨0, by omega, by rw [if_pos h]; rfl⟩
  · obtain ⟨k, hk, e⟩ := nof x h
    exact ⟨k, hk, by rw [if_neg h]; exact e⟩
theorem nl2i {a : Int64} {n : Nat} (h1 : 0 ≤ a.toInt) (h2 : a.toInt < n) (hn : n < 2147483648) : ∃ k : Nat, k < n ∧ a.toInt32 = nI k := by
  refine ⟨a.toInt.toNat, by omega, ?_⟩
  refine Int32.toInt_inj.mp ?_
  rw [nI_toInt (by omega), Int64.toInt_toInt32]
  rw [Int.bmod_eq_of_le (by omega) (by omega)]
  omega
theorem lrem10 (x : Int64) : (x - x / 10 * 10).toInt = x.toInt.tmod 10 := by
  have e : (10 : Int64).toInt = 10 := rfl
  have hx1 := Int64.le_toInt x
  have hx2 := Int64.toInt_lt x
  have hd : (x / 10).toInt = x.toInt.tdiv 10 := by
    rw [Jvm.Kit.i64_div (by rw [e]; omega), e]
  have hr := Int.mul_tdiv_add_tmod x.toInt 10
  have hb1 : x.toInt.tmod 10 < 10 := Int.tmod_lt_of_pos _ (by decide)
  have hb2 : -10 < x.toInt.tmod 10 := by
    have h3 := Int.tmod_lt_of_pos (-x.toInt) (by decide : (0 : Int) < 10)
    rw [Int.neg_tmod] at h3
    omega
  have hsg : (0 ≤ x.toInt → 0 ≤ x.toInt.tmod 10) ∧ (x.toInt < 0 → x.toInt.tmod 10 ≤ 0) := by
    refine ⟨fun h => Int.tmod_nonneg 10 h, fun h => ?_⟩
    have h3 := Int.tmod_nonneg (a := -x.toInt) 10 (by omega)
    rw [Int.neg_tmod] at h3
    omega
  have hm : (x / 10 * 10).toInt = x.toInt.tdiv 10 * 10 := by
    rw [Jvm.Kit.i64_mul (by rw [hd, e]; omega) (by rw [hd, e]; omega), hd, e]
  rw [Jvm.Kit.i64_sub (by rw [hm]; omega) (by rw [hm]; omega), hm]
  omega
theorem lxor10 (x : Int64) : (0 ≤ lg_cmp (x ^^^ 10) 0) ↔ 0 ≤ x.toInt := by
  rw [lg_cmp_ge, Int64.le_iff_toInt_le]
  show (0 : Int) ≤ (x ^^^ 10).toBitVec.toInt ↔ 0 ≤ x.toBitVec.toInt
  rw [Int64.toBitVec_xor]
  have h : (10 : Int64).toBitVec.msb = false := by decide
  have a := BitVec.msb_eq_toInt (x := x.toBitVec ^^^ (10 : Int64).toBitVec)
  have b := BitVec.msb_eq_toInt (x := x.toBitVec)
  rw [BitVec.msb_xor, h, Bool.xor_false, b] at a
  have h2 := decide_eq_decide.mp a
  omega
theorem fmt10b {x v : Int64} (hv : v = x - x / 10 * 10) (h : ¬ 0 ≤ lg_cmp (x ^^^ 10) 0) : -10 < v.toInt ∧ v.toInt ≤ 0 := by
  have h1 : ¬ 0 ≤ x.toInt := fun q => h ((lxor10 x).mpr q)
  rw [hv, lrem10]
  have h3 := Int.tmod_nonneg (a := -x.toInt) 10 (by omega)
  have h4 := Int.tmod_lt_of_pos (-x.toInt) (by decide : (0 : Int) < 10)
  rw [Int.neg_tmod] at h3 h4
  omega
theorem nfitb (b : Nat) (h : b ≤ 1) : fits .boolean (.int (nI b)) = true := by
  match b, h with
  | 0, _ => rfl
  | 1, _ => rfl
  | n + 2, h => exact absurd h (by omega)
theorem npred (a : Nat) (h : 1 ≤ a) : nI a - 1 = nI (a - 1) := nsub a 1 h
theorem npm1 (a : Nat) (h : ¬ nI a - 1 < 0) : 1 ≤ a := by
  rcases Nat.eq_zero_or_pos a with h0 | h0
  · subst h0; exact absurd (by decide) h
  · exact h0
theorem npm0 (a : Nat) (ha : a < 2147483648) (h : nI a - 1 < 0) : a = 0 := by
  rcases Nat.eq_zero_or_pos a with h0 | h0
  · exact h0
  · rw [npred a h0] at h
    exact absurd h (nI_pos (by omega))
theorem nofp (x : Int32) (h : 0 < x) : ∃ j : Nat, j < 2147483648 ∧ 1 ≤ j ∧ x = nI j := by
  obtain ⟨j, hj, e⟩ := nof x (fun q => Int32.lt_irrefl (Int32.lt_trans h q))
  refine ⟨j, hj, ?_, e⟩
  rcases Nat.eq_zero_or_pos j with h0 | h0
  · subst h0; rw [e] at h; exact absurd h (by decide)
  · exact h0
theorem nushr (k j : Nat) (hk : k < 2147483648) (hj : j < 32) (P : Nat) (hP : 2 ^ j = P) : ((nI k).toUInt32 >>> ((nI j).toUInt32 &&& Int32.toUInt32 31)).toInt32 = nI (k / P) := by
  subst hP
  have h1 : ∀ j, j < 32 → ((((nI j).toUInt32 &&& Int32.toUInt32 31).toBitVec % 32).toNat = j) := by decide
  exact pk_ushrN (by omega) (nI j) j (h1 j hj)
theorem nand32 (x : Int32) : ∃ k : Nat, k ≤ 32 ∧ x &&& 32 = nI k := by
  refine ⟨(x &&& 32).toBitVec.toNat, ?_, ?_⟩
  · rw [Int32.toBitVec_and, BitVec.toNat_and]
    exact Nat.and_le_right
  · refine Int32.toBitVec_inj.mp ?_
    show _ = BitVec.ofNat 32 _
    rw [BitVec.ofNat_toNat, BitVec.setWidth_eq]
theorem ndn (x : Int32) : x + Int32.ofInt (-1) = x - 1 := by
  show x + (-1) = x - 1
  exact (Int32.sub_eq_add_neg _ _).symm
theorem nofge' (x : Int32) (b : Nat) (hb : b < 2147483648) (h : nI b ≤ x) : ∃ k : Nat, k < 2147483648 ∧ b ≤ k ∧ x = nI k := by
  have h0 : ¬ x < 0 := fun q => absurd (Int32.lt_of_le_of_lt h q) (nI_pos hb)
  obtain ⟨k, hk, e⟩ := nof x h0
  subst e
  exact ⟨k, hk, (nle b k hb hk).mp h, rfl⟩
theorem nofge (x : Int32) (b : Nat) (hb : b < 2147483648) (h : ¬ x < nI b) : ∃ k : Nat, k < 2147483648 ∧ b ≤ k ∧ x = nI k := nofge' x b hb (Int32.not_lt.mp h)
/-- a row whose first n places hold numbers up to 9 -/
def rowOk (f : Nat → Int32) (n : Nat) : Prop := ∀ j, j < n → ∃ k : Nat, k ≤ 9 ∧ f j = nI k
theorem rowOk_0 (f : Nat → Int32) : rowOk f 0 := fun j h => absurd h (Nat.not_lt_zero j)
theorem rowOk_up {f : Nat → Int32} {i v : Nat} (h : rowOk f i) (hi : i < 2147483648) (hv : v ≤ 9) : rowOk (upd f (nI i).toNatClampNeg (nI v)) (i + 1) := by
  rw [nI_clamp hi]
  intro j hj
  by_cases e : j = i
  · exact ⟨v, hv, by unfold upd; rw [if_pos e]⟩
  · obtain ⟨k, hk, e2⟩ := h j (by omega)
    exact ⟨k, hk, by unfold upd; rw [if_neg e]; exact e2⟩
theorem rowOk_at {f : Nat → Int32} {n i : Nat} (h : rowOk f n) (hi : i < n) (hb : i < 2147483648) : ∃ k : Nat, k ≤ 9 ∧ f (nI i).toNatClampNeg = nI k := by
  rw [nI_clamp hb]
  exact h i hi
theorem nshl1 (d : Nat) (h : d ≤ 9) : ∃ P : Nat, P ≤ 512 ∧ (1 : Int32) <<< (nI d &&& 31) = nI P := by
  match d, h with
  | 0, _ => exact ⟨1, by omega, by decide⟩
  | 1, _ => exact ⟨2, by omega, by decide⟩
  | 2, _ => exact ⟨4, by omega, by decide⟩
  | 3, _ => exact ⟨8, by omega, by decide⟩
  | 4, _ => exact ⟨16, by omega, by decide⟩
  | 5, _ => exact ⟨32, by omega, by decide⟩
  | 6, _ => exact ⟨64, by omega, by decide⟩
  | 7, _ => exact ⟨128, by omega, by decide⟩
  | 8, _ => exact ⟨256, by omega, by decide⟩
  | 9, _ => exact ⟨512, by omega, by decide⟩
  | n + 10, h => exact absurd h (by omega)
def updG {α : Type} (f : Nat → α) (k : Nat) (v : α) : Nat → α := fun j => if j = k then v else f j
def rotG {α : Type} (f : Nat → α) : Nat → α := fun j => if j < 19 then f (j + 1) else if j = 19 then f 0 else f j
theorem updG_le {f : Nat → Nat} {k v B : Nat} (h : ∀ j, f j ≤ B) (hv : v ≤ B) : ∀ j, updG f k v j ≤ B := fun j => by
  unfold updG
  by_cases e : j = k
  · rw [if_pos e]; exact hv
  · rw [if_neg e]; exact h j
theorem rotG_le {f : Nat → Nat} {B : Nat} (h : ∀ j, f j ≤ B) : ∀ j, rotG f j ≤ B := fun j => by
  unfold rotG
  by_cases e : j < 19
  · rw [if_pos e]; exact h _
  · rw [if_neg e]
    by_cases e2 : j = 19
    · rw [if_pos e2]; exact h _
    · rw [if_neg e2]; exact h _
theorem dX10_add_0 : decode cX10_add 0 = .ok (.aload_n 0, 1) := by decide +kernel
theorem dX10_add_1 : decode cX10_add 1 = .ok (.getfield 7, 3) := by decide +kernel
theorem dX10_add_4 : decode cX10_add 4 = .ok (.aload_n 0, 1) := by decide +kernel
theorem dX10_add_5 : decode cX10_add 5 = .ok (.getfield 19, 3) := by decide +kernel
theorem dX10_add_8 : decode cX10_add 8 = .ok (.arraylength, 1) := by decide +kernel
theorem dX10_add_9 : decode cX10_add 9 = .ok (.if_icmp .ge 27, 3) := by decide +kernel
theorem dX10_add_36 : decode cX10_add 36 = .ok (.return_, 1) := by decide +kernel
theorem dX10_add_12 : decode cX10_add 12 = .ok (.aload_n 0, 1) := by decide +kernel
theorem dX10_add_13 : decode cX10_add 13 = .ok (.getfield 19, 3) := by decide +kernel
theorem dX10_add_16 : decode cX10_add 16 = .ok (.aload_n 0, 1) := by decide +kernel
theorem dX10_add_17 : decode cX10_add 17 = .ok (.getfield 7, 3) := by decide +kernel
theorem dX10_add_20 : decode cX10_add 20 = .ok (.iload_n 1, 1) := by decide +kernel
theorem dX10_add_21 : decode cX10_add 21 = .ok (.sipush 255, 3) := by decide +kernel
theorem dX10_add_24 : decode cX10_add 24 = .ok (.iand, 1) := by decide +kernel
theorem dX10_add_25 : decode cX10_add 25 = .ok (.iastore, 1) := by decide +kernel
theorem dX10_add_26 : decode cX10_add 26 = .ok (.aload_n 0, 1) := by decide +kernel
theorem dX10_add_27 : decode cX10_add 27 = .ok (.dup, 1) := by decide +kernel
theorem dX10_add_28 : decode cX10_add 28 = .ok (.getfield 7, 3) := by decide +kernel
theorem dX10_add_31 : decode cX10_add 31 = .ok (.iconst 1, 1) := by decide +kernel
theorem dX10_add_32 : decode cX10_add 32 = .ok (.iadd, 1) := by decide +kernel
theorem dX10_add_33 : decode cX10_add 33 = .ok (.putfield 7, 3) := by decide +kernel
theorem w_1_41 : (Cond.fieldLink RX10 7 "SameKeeper$Tape" "length" "I") ∈ wsL_law := sk_mem (ck_1 _ (List.mem_of_getElem? (i := 41) rfl)) rfl
theorem w_1_39 : (Cond.fieldLink RX10 19 "SameKeeper$Tape" "bytes" "[I") ∈ wsL_law := sk_mem (ck_1 _ (List.mem_of_getElem? (i := 39) rfl)) rfl
theorem w_2_193 : (Cond.code yX10_add cX10_add 2 none) ∈ wsL_law := sk_mem (ck_2 _ (List.mem_of_getElem? (i := 193) rfl)) rfl
theorem dX10_left_0 : decode cX10_left 0 = .ok (.iload_n 1, 1) := by decide +kernel
theorem dX10_left_1 : decode cX10_left 1 = .ok (.ifCond .lt 21, 3) := by decide +kernel
theorem dX10_left_23 : decode cX10_left 23 = .ok (.ireturn, 1) := by decide +kernel
theorem dX10_left_4 : decode cX10_left 4 = .ok (.iload_n 1, 1) := by decide +kernel
theorem dX10_left_5 : decode cX10_left 5 = .ok (.aload_n 0, 1) := by decide +kernel
theorem dX10_left_6 : decode cX10_left 6 = .ok (.getfield 19, 3) := by decide +kernel
theorem dX10_left_9 : decode cX10_left 9 = .ok (.arraylength, 1) := by decide +kernel
theorem dX10_left_10 : decode cX10_left 10 = .ok (.if_icmp .ge 12, 3) := by decide +kernel
theorem dX10_left_13 : decode cX10_left 13 = .ok (.aload_n 0, 1) := by decide +kernel
theorem dX10_left_14 : decode cX10_left 14 = .ok (.getfield 19, 3) := by decide +kernel
theorem dX10_left_17 : decode cX10_left 17 = .ok (.iload_n 1, 1) := by decide +kernel
theorem dX10_left_18 : decode cX10_left 18 = .ok (.iaload, 1) := by decide +kernel
theorem dX10_left_19 : decode cX10_left 19 = .ok (.goto 4, 3) := by decide +kernel
theorem w_4_217 : (Cond.code yX10_left cX10_left 2 (some .int)) ∈ wsL_law := sk_mem (ck_4 _ (List.mem_of_getElem? (i := 217) rfl)) rfl
theorem dX10_checkOf_0 : decode cX10_checkOf 0 = .ok (.sipush 139, 3) := by decide +kernel
theorem dX10_checkOf_3 : decode cX10_checkOf 3 = .ok (.istore_n 2, 1) := by decide +kernel
theorem dX10_checkOf_4 : decode cX10_checkOf 4 = .ok (.iconst 0, 1) := by decide +kernel
theorem dX10_checkOf_5 : decode cX10_checkOf 5 = .ok (.istore_n 3, 1) := by decide +kernel
theorem dX10_checkOf_6 : decode cX10_checkOf 6 = .ok (.iload_n 3, 1) := by decide +kernel
theorem dX10_checkOf_7 : decode cX10_checkOf 7 = .ok (.iload_n 1, 1) := by decide +kernel
theorem dX10_checkOf_8 : decode cX10_checkOf 8 = .ok (.if_icmp .ge 23, 3) := by decide +kernel
theorem dX10_checkOf_31 : decode cX10_checkOf 31 = .ok (.iload_n 2, 1) := by decide +kernel
theorem dX10_checkOf_32 : decode cX10_checkOf 32 = .ok (.ireturn, 1) := by decide +kernel
theorem dX10_checkOf_11 : decode cX10_checkOf 11 = .ok (.iconst 3, 1) := by decide +kernel
theorem dX10_checkOf_12 : decode cX10_checkOf 12 = .ok (.iload_n 2, 1) := by decide +kernel
theorem dX10_checkOf_13 : decode cX10_checkOf 13 = .ok (.imul, 1) := by decide +kernel
theorem dX10_checkOf_14 : decode cX10_checkOf 14 = .ok (.aload_n 0, 1) := by decide +kernel
theorem dX10_checkOf_15 : decode cX10_checkOf 15 = .ok (.iload_n 3, 1) := by decide +kernel
theorem dX10_checkOf_16 : decode cX10_checkOf 16 = .ok (.invokevirtual 27, 3) := by decide +kernel
theorem dX10_checkOf_19 : decode cX10_checkOf 19 = .ok (.iadd, 1) := by decide +kernel
theorem dX10_checkOf_20 : decode cX10_checkOf 20 = .ok (.sipush 251, 3) := by decide +kernel
theorem dX10_checkOf_23 : decode cX10_checkOf 23 = .ok (.irem, 1) := by decide +kernel
theorem dX10_checkOf_24 : decode cX10_checkOf 24 = .ok (.istore_n 2, 1) := by decide +kernel
theorem dX10_checkOf_25 : decode cX10_checkOf 25 = .ok (.iinc 3 1, 3) := by decide +kernel
theorem dX10_checkOf_28 : decode cX10_checkOf 28 = .ok (.goto (-22), 3) := by decide +kernel
theorem w_5_132 : (Cond.methodLink RX10 27 yX10_left) ∈ wsL_law := sk_mem (ck_5 _ (List.mem_of_getElem? (i := 132) rfl)) rfl
theorem w_4_215 : (Cond.instanceMethod yX10_left) ∈ wsL_law := sk_mem (ck_4 _ (List.mem_of_getElem? (i := 215) rfl)) rfl
theorem w_4_216 : (Cond.selects RX10 yX10_left yX10_left) ∈ wsL_law := sk_mem (ck_4 _ (List.mem_of_getElem? (i := 216) rfl)) rfl
theorem w_1_2 : (Cond.initialized RX10) ∈ wsL_law := sk_mem (ck_1 _ (List.mem_of_getElem? (i := 2) rfl)) rfl
theorem w_5_131 : (Cond.code yX10_checkOf cX10_checkOf 4 (some .int)) ∈ wsL_law := sk_mem (ck_5 _ (List.mem_of_getElem? (i := 131) rfl)) rfl
theorem dX10_addNumber_0 : decode cX10_addNumber 0 = .ok (.aload_n 0, 1) := by decide +kernel
theorem dX10_addNumber_1 : decode cX10_addNumber 1 = .ok (.iload_n 1, 1) := by decide +kernel
theorem dX10_addNumber_2 : decode cX10_addNumber 2 = .ok (.bipush 24, 2) := by decide +kernel
theorem dX10_addNumber_4 : decode cX10_addNumber 4 = .ok (.iushr, 1) := by decide +kernel
theorem dX10_addNumber_5 : decode cX10_addNumber 5 = .ok (.invokevirtual 23, 3) := by decide +kernel
theorem dX10_addNumber_8 : decode cX10_addNumber 8 = .ok (.aload_n 0, 1) := by decide +kernel
theorem dX10_addNumber_9 : decode cX10_addNumber 9 = .ok (.iload_n 1, 1) := by decide +kernel
theorem dX10_addNumber_10 : decode cX10_addNumber 10 = .ok (.bipush 16, 2) := by decide +kernel
theorem dX10_addNumber_12 : decode cX10_addNumber 12 = .ok (.iushr, 1) := by decide +kernel
theorem dX10_addNumber_13 : decode cX10_addNumber 13 = .ok (.invokevirtual 23, 3) := by decide +kernel
theorem dX10_addNumber_16 : decode cX10_addNumber 16 = .ok (.aload_n 0, 1) := by decide +kernel
theorem dX10_addNumber_17 : decode cX10_addNumber 17 = .ok (.iload_n 1, 1) := by decide +kernel
theorem dX10_addNumber_18 : decode cX10_addNumber 18 = .ok (.bipush 8, 2) := by decide +kernel
theorem dX10_addNumber_20 : decode cX10_addNumber 20 = .ok (.iushr, 1) := by decide +kernel
theorem dX10_addNumber_21 : decode cX10_addNumber 21 = .ok (.invokevirtual 23, 3) := by decide +kernel
theorem dX10_addNumber_24 : decode cX10_addNumber 24 = .ok (.aload_n 0, 1) := by decide +kernel
theorem dX10_addNumber_25 : decode cX10_addNumber 25 = .ok (.iload_n 1, 1) := by decide +kernel
theorem dX10_addNumber_26 : decode cX10_addNumber 26 = .ok (.invokevirtual 23, 3) := by decide +kernel
theorem dX10_addNumber_29 : decode cX10_addNumber 29 = .ok (.return_, 1) := by decide +kernel
theorem w_2_190 : (Cond.methodLink RX10 23 yX10_add) ∈ wsL_law := sk_mem (ck_2 _ (List.mem_of_getElem? (i := 190) rfl)) rfl
theorem w_2_191 : (Cond.instanceMethod yX10_add) ∈ wsL_law := sk_mem (ck_2 _ (List.mem_of_getElem? (i := 191) rfl)) rfl
theorem w_2_192 : (Cond.selects RX10 yX10_add yX10_add) ∈ wsL_law := sk_mem (ck_2 _ (List.mem_of_getElem? (i := 192) rfl)) rfl
theorem w_2_189 : (Cond.code yX10_addNumber cX10_addNumber 2 none) ∈ wsL_law := sk_mem (ck_2 _ (List.mem_of_getElem? (i := 189) rfl)) rfl
theorem dX0_clear_0 : decode cX0_clear 0 = .ok (.aload_n 0, 1) := by decide +kernel
theorem dX0_clear_1 : decode cX0_clear 1 = .ok (.iconst 0, 1) := by decide +kernel
theorem dX0_clear_2 : decode cX0_clear 2 = .ok (.putfield 27, 3) := by decide +kernel
theorem dX0_clear_5 : decode cX0_clear 5 = .ok (.aload_n 0, 1) := by decide +kernel
theorem dX0_clear_6 : decode cX0_clear 6 = .ok (.iconst 0, 1) := by decide +kernel
theorem dX0_clear_7 : decode cX0_clear 7 = .ok (.putfield 31, 3) := by decide +kernel
theorem dX0_clear_10 : decode cX0_clear 10 = .ok (.return_, 1) := by decide +kernel
theorem w_1_133 : (Cond.fieldLink RX0 27 "SameKeeper$Code" "length" "I") ∈ wsL_law := sk_mem (ck_1 _ (List.mem_of_getElem? (i := 133) rfl)) rfl
theorem w_1_136 : (Cond.fieldLink RX0 31 "SameKeeper$Code" "mindsWeek" "Z") ∈ wsL_law := sk_mem (ck_1 _ (List.mem_of_getElem? (i := 136) rfl)) rfl
theorem w_2_217 : (Cond.code yX0_clear cX0_clear 1 none) ∈ wsL_law := sk_mem (ck_2 _ (List.mem_of_getElem? (i := 217) rfl)) rfl
set_option maxHeartbeats 4000000 in
set_option maxRecDepth 100000 in
theorem c_Code_clear (l : Launch) (D : va_G) (cI cJ cC cZ cS : ClassId) (h0 : Nat) (k1 : Nat) (k2 : Nat) (k3 : Nat) (k4 : Nat) (cl : Nat) (mw : Nat)  : skM l yX0_clear cX0_clear 1 none 0 0 0 0 D (skT cI cJ cC cZ cS) [.ref h0] [(h0, .inr (0, [.ref k1, .ref k2, .ref k3, .ref k4, .int (nI cl), .int (nI mw)]))] (skV D (skT cI cJ cC cZ cS) (fun (u : va_W) => u = [(h0, .inr (0, [.ref k1, .ref k2, .ref k3, .ref k4, .int 0, .int 0]))])) := by
  refine skM_of (by decide +kernel) (Nat.le_of_ble_eq_true rfl) ?_
  intro p e s m below meth c A ls E hP hD hl
  obtain ⟨hx, hb, hr, hml, hlocks, hin, hown, hts, hK, hA⟩ := E
  have hown : s.vm.findClass RX0 = some m.cls := hown
  have hS : va_S A s.heap s.heap [] := va_S.rf
  have hl : lv_has ls 1 [(0, .ref h0)] := hl
  refine lv_aload_n hx hb dX0_clear_0 rfl (lv_at hl 0 rfl) ?_
  refine lv_iconst (v := 0) hx hb dX0_clear_1 (by decide) ?_
  refine sk_put (ws' := [(h0, .inr (0, [.ref k1, .ref k2, .ref k3, .ref k4, .int 0, .int (nI mw)]))]) (C := RX0) (T := TX0) (N := 6) (v := .int 0) hx hb hts inlX0 tyX0 tyX0_ok nmX0 hown hK hP hD hS 0 rfl rfl 4 (by decide) w_1_133 rfl rfl rfl (Nat.le_of_ble_eq_true rfl) rfl dX0_clear_2 (fun H locs hP hD hS => ?_)
  refine lv_aload_n hx hb dX0_clear_5 rfl (lv_at hl 0 rfl) ?_
  refine lv_iconst (v := 0) hx hb dX0_clear_6 (by decide) ?_
  refine sk_put (ws' := [(h0, .inr (0, [.ref k1, .ref k2, .ref k3, .ref k4, .int 0, .int 0]))]) (C := RX0) (T := TX0) (N := 6) (v := .int 0) hx hb hts inlX0 tyX0 tyX0_ok nmX0 hown hK hP hD hS 0 rfl rfl 5 (by decide) w_1_136 rfl rfl rfl (Nat.le_of_ble_eq_true rfl) rfl dX0_clear_7 (fun H locs hP hD hS => ?_)
  exact sk_vret hx hb hr hlocks hK hP hD hS rfl (Nat.le_of_ble_eq_true rfl) (Nat.le_of_ble_eq_true rfl) dX0_clear_10
theorem dX0_add_0 : decode cX0_add 0 = .ok (.aload_n 0, 1) := by decide +kernel
theorem dX0_add_1 : decode cX0_add 1 = .ok (.getfield 27, 3) := by decide +kernel
theorem dX0_add_4 : decode cX0_add 4 = .ok (.aload_n 0, 1) := by decide +kernel
theorem dX0_add_5 : decode cX0_add 5 = .ok (.getfield 11, 3) := by decide +kernel
theorem dX0_add_8 : decode cX0_add 8 = .ok (.arraylength, 1) := by decide +kernel
theorem dX0_add_9 : decode cX0_add 9 = .ok (.if_icmp .ge 23, 3) := by decide +kernel
theorem dX0_add_32 : decode cX0_add 32 = .ok (.aload_n 0, 1) := by decide +kernel
theorem dX0_add_33 : decode cX0_add 33 = .ok (.dup, 1) := by decide +kernel
theorem dX0_add_34 : decode cX0_add 34 = .ok (.getfield 31, 3) := by decide +kernel
theorem dX0_add_37 : decode cX0_add 37 = .ok (.iload_n 1, 1) := by decide +kernel
theorem dX0_add_38 : decode cX0_add 38 = .ok (.sipush 10004, 3) := by decide +kernel
theorem dX0_add_41 : decode cX0_add 41 = .ok (.if_icmp .ne 7, 3) := by decide +kernel
theorem dX0_add_48 : decode cX0_add 48 = .ok (.iconst 0, 1) := by decide +kernel
theorem dX0_add_49 : decode cX0_add 49 = .ok (.ior, 1) := by decide +kernel
theorem dX0_add_50 : decode cX0_add 50 = .ok (.putfield 31, 3) := by decide +kernel
theorem dX0_add_53 : decode cX0_add 53 = .ok (.return_, 1) := by decide +kernel
theorem dX0_add_44 : decode cX0_add 44 = .ok (.iconst 1, 1) := by decide +kernel
theorem dX0_add_45 : decode cX0_add 45 = .ok (.goto 4, 3) := by decide +kernel
theorem dX0_add_12 : decode cX0_add 12 = .ok (.aload_n 0, 1) := by decide +kernel
theorem dX0_add_13 : decode cX0_add 13 = .ok (.getfield 11, 3) := by decide +kernel
theorem dX0_add_16 : decode cX0_add 16 = .ok (.aload_n 0, 1) := by decide +kernel
theorem dX0_add_17 : decode cX0_add 17 = .ok (.getfield 27, 3) := by decide +kernel
theorem dX0_add_20 : decode cX0_add 20 = .ok (.iload_n 1, 1) := by decide +kernel
theorem dX0_add_21 : decode cX0_add 21 = .ok (.iastore, 1) := by decide +kernel
theorem dX0_add_22 : decode cX0_add 22 = .ok (.aload_n 0, 1) := by decide +kernel
theorem dX0_add_23 : decode cX0_add 23 = .ok (.dup, 1) := by decide +kernel
theorem dX0_add_24 : decode cX0_add 24 = .ok (.getfield 27, 3) := by decide +kernel
theorem dX0_add_27 : decode cX0_add 27 = .ok (.iconst 1, 1) := by decide +kernel
theorem dX0_add_28 : decode cX0_add 28 = .ok (.iadd, 1) := by decide +kernel
theorem dX0_add_29 : decode cX0_add 29 = .ok (.putfield 27, 3) := by decide +kernel
theorem w_1_129 : (Cond.fieldLink RX0 11 "SameKeeper$Code" "steps" "[I") ∈ wsL_law := sk_mem (ck_1 _ (List.mem_of_getElem? (i := 129) rfl)) rfl
theorem w_3_100 : (Cond.code yX0_add cX0_add 2 none) ∈ wsL_law := sk_mem (ck_3 _ (List.mem_of_getElem? (i := 100) rfl)) rfl
theorem dX0_name_0 : decode cX0_name 0 = .ok (.iload_n 1, 1) := by decide +kernel
theorem dX0_name_1 : decode cX0_name 1 = .ok (.sipush 10000, 3) := by decide +kernel
theorem dX0_name_4 : decode cX0_name 4 = .ok (.isub, 1) := by decide +kernel
theorem dX0_name_5 : decode cX0_name 5 = .ok (.istore 4, 2) := by decide +kernel
theorem dX0_name_7 : decode cX0_name 7 = .ok (.iload 4, 2) := by decide +kernel
theorem dX0_name_9 : decode cX0_name 9 = .ok (.ifCond .lt 18, 3) := by decide +kernel
theorem dX0_name_27 : decode cX0_name 27 = .ok (.return_, 1) := by decide +kernel
theorem dX0_name_12 : decode cX0_name 12 = .ok (.iload 4, 2) := by decide +kernel
theorem dX0_name_14 : decode cX0_name 14 = .ok (.bipush 9, 2) := by decide +kernel
theorem dX0_name_16 : decode cX0_name 16 = .ok (.if_icmp .ge 11, 3) := by decide +kernel
theorem dX0_name_19 : decode cX0_name 19 = .ok (.aload_n 0, 1) := by decide +kernel
theorem dX0_name_20 : decode cX0_name 20 = .ok (.getfield 21, 3) := by decide +kernel
theorem dX0_name_23 : decode cX0_name 23 = .ok (.iload 4, 2) := by decide +kernel
theorem dX0_name_25 : decode cX0_name 25 = .ok (.lload_n 2, 1) := by decide +kernel
theorem dX0_name_26 : decode cX0_name 26 = .ok (.lastore, 1) := by decide +kernel
theorem w_1_131 : (Cond.fieldLink RX0 21 "SameKeeper$Code" "names" "[J") ∈ wsL_law := sk_mem (ck_1 _ (List.mem_of_getElem? (i := 131) rfl)) rfl
theorem w_3_215 : (Cond.code yX0_name cX0_name 5 none) ∈ wsL_law := sk_mem (ck_3 _ (List.mem_of_getElem? (i := 215) rfl)) rfl
set_option maxHeartbeats 4000000 in
set_option maxRecDepth 100000 in
theorem c_Code_name (l : Launch) (D : va_G) (cI cJ cC cZ cS : ClassId) (h0 : Nat) (k1 : Nat) (k2 : Nat) (k3 : Nat) (k4 : Nat) (cl : Nat) (mw : Nat) (f3 : Nat → Int64) (o : Int32) (x : Int64)  : skM l yX0_name cX0_name 5 none 0 0 0 0 D (skT cI cJ cC cZ cS) [.ref h0, .int o, .long x] [(h0, .inr (0, [.ref k1, .ref k2, .ref k3, .ref k4, .int (nI cl), .int (nI mw)])), (k3, .inl (cJ, 9, .inr (.inl f3)))] (skV D (skT cI cJ cC cZ cS) (fun (u : va_W) => ∃ (g3 : Nat → Int64), u = [(h0, .inr (0, [.ref k1, .ref k2, .ref k3, .ref k4, .int (nI cl), .int (nI mw)])), (k3, .inl (cJ, 9, .inr (.inl g3)))])) := by
  refine skM_of (by decide +kernel) (Nat.le_of_ble_eq_true rfl) ?_
  intro p e s m below meth c A ls E hP hD hl
  obtain ⟨hx, hb, hr, hml, hlocks, hin, hown, hts, hK, hA⟩ := E
  have hown : s.vm.findClass RX0 = some m.cls := hown
  have hS : va_S A s.heap s.heap [] := va_S.rf
  have hl : lv_has ls 5 [(0, .ref h0), (1, .int o), (2, .long x)] := hl
  refine lv_iload_n hx hb dX0_name_0 rfl (lv_at hl 1 rfl) ?_
  refine lv_sipush (v := 10000) hx hb dX0_name_1 (by decide) ?_
  refine lv_isub hx hb dX0_name_4 ?_
  refine lv_topi (fun v_1 ev_1 => ?_)
  refine lv_istore (lv' := [(4, .int v_1), (0, .ref h0), (1, .int o), (2, .long x)]) hx hb dX0_name_5 hl (by decide) rfl (fun ls hl => ?_)
  refine lv_iload hx hb dX0_name_7 (lv_at hl 0 rfl) ?_
  refine lv_if_lt (tgt := 27) hx hb dX0_name_9 (by decide) (fun c_2 => ?_) (fun c_2 => ?_)
  · skip
    exact sk_vret hx hb hr hlocks hK hP hD hS (⟨f3, rfl⟩) (Nat.le_of_ble_eq_true rfl) (Nat.le_of_ble_eq_true rfl) dX0_name_27
  · obtain ⟨k_3, hk_3, rfl⟩ := nof v_1 c_2
    refine lv_iload hx hb dX0_name_12 (lv_at hl 0 rfl) ?_
    refine lv_bipush (v := 9) hx hb dX0_name_14 (by decide) ?_
    refine lv_icmp_ge (tgt := 27) hx hb dX0_name_16 (by decide) (fun c_4 => ?_) (fun c_4 => ?_)
    · have c_4 : 9 ≤ k_3 := (nle 9 k_3 (by omega) (by omega)).mp c_4
      exact sk_vret hx hb hr hlocks hK hP hD hS (⟨f3, rfl⟩) (Nat.le_of_ble_eq_true rfl) (Nat.le_of_ble_eq_true rfl) dX0_name_27
    · have c_4 : ¬ (9 ≤ k_3) := fun h => c_4 ((nle 9 k_3 (by omega) (by omega)).mpr h)
      refine lv_aload_n hx hb dX0_name_19 rfl (lv_at hl 1 rfl) ?_
      refine sk_get (v := .ref k3) (C := RX0) (T := TX0) (N := 6) hx hb hts inlX0 hown hK hP 0 rfl rfl 2 (by decide) w_1_131 rfl dX0_name_20 ?_
      refine lv_iload hx hb dX0_name_23 (lv_at hl 0 rfl) ?_
      refine lv_lload_n hx hb dX0_name_25 rfl (lv_at hl 3 rfl) ?_
      refine sk_lastO (ws' := fun f_5 => [(h0, .inr (0, [.ref k1, .ref k2, .ref k3, .ref k4, .int (nI cl), .int (nI mw)])), (k3, .inl (cJ, 9, .inr (.inl f_5)))]) hx hb hK hP hD hS 1 1 rfl rfl (vin k_3 9 (by omega) (by omega)) (fun _ => rfl) dX0_name_26 (fun f_5 H locs hP hD hS => ?_)
      exact sk_vret hx hb hr hlocks hK hP hD hS (⟨f_5, rfl⟩) (Nat.le_of_ble_eq_true rfl) (Nat.le_of_ble_eq_true rfl) dX0_name_27
theorem dX0_nameCount_0 : decode cX0_nameCount 0 = .ok (.iload_n 1, 1) := by decide +kernel
theorem dX0_nameCount_1 : decode cX0_nameCount 1 = .ok (.ifCond .lt 16, 3) := by decide +kernel
theorem dX0_nameCount_17 : decode cX0_nameCount 17 = .ok (.return_, 1) := by decide +kernel
theorem dX0_nameCount_4 : decode cX0_nameCount 4 = .ok (.iload_n 1, 1) := by decide +kernel
theorem dX0_nameCount_5 : decode cX0_nameCount 5 = .ok (.bipush 10, 2) := by decide +kernel
theorem dX0_nameCount_7 : decode cX0_nameCount 7 = .ok (.if_icmp .ge 10, 3) := by decide +kernel
theorem dX0_nameCount_10 : decode cX0_nameCount 10 = .ok (.aload_n 0, 1) := by decide +kernel
theorem dX0_nameCount_11 : decode cX0_nameCount 11 = .ok (.getfield 24, 3) := by decide +kernel
theorem dX0_nameCount_14 : decode cX0_nameCount 14 = .ok (.iload_n 1, 1) := by decide +kernel
theorem dX0_nameCount_15 : decode cX0_nameCount 15 = .ok (.lload_n 2, 1) := by decide +kernel
theorem dX0_nameCount_16 : decode cX0_nameCount 16 = .ok (.lastore, 1) := by decide +kernel
theorem w_1_132 : (Cond.fieldLink RX0 24 "SameKeeper$Code" "counts" "[J") ∈ wsL_law := sk_mem (ck_1 _ (List.mem_of_getElem? (i := 132) rfl)) rfl
theorem w_5_115 : (Cond.code yX0_nameCount cX0_nameCount 4 none) ∈ wsL_law := sk_mem (ck_5 _ (List.mem_of_getElem? (i := 115) rfl)) rfl
set_option maxHeartbeats 4000000 in
set_option maxRecDepth 100000 in
theorem c_Code_nameCount (l : Launch) (D : va_G) (cI cJ cC cZ cS : ClassId) (h0 : Nat) (k1 : Nat) (k2 : Nat) (k3 : Nat) (k4 : Nat) (cl : Nat) (mw : Nat) (f4 : Nat → Int64) (o : Int32) (x : Int64)  : skM l yX0_nameCount cX0_nameCount 4 none 0 0 0 0 D (skT cI cJ cC cZ cS) [.ref h0, .int o, .long x] [(h0, .inr (0, [.ref k1, .ref k2, .ref k3, .ref k4, .int (nI cl), .int (nI mw)])), (k4, .inl (cJ, 10, .inr (.inl f4)))] (skV D (skT cI cJ cC cZ cS) (fun (u : va_W) => ∃ (g4 : Nat → Int64), u = [(h0, .inr (0, [.ref k1, .ref k2, .ref k3, .ref k4, .int (nI cl), .int (nI mw)])), (k4, .inl (cJ, 10, .inr (.inl g4)))])) := by
  refine skM_of (by decide +kernel) (Nat.le_of_ble_eq_true rfl) ?_
  intro p e s m below meth c A ls E hP hD hl
  obtain ⟨hx, hb, hr, hml, hlocks, hin, hown, hts, hK, hA⟩ := E
  have hown : s.vm.findClass RX0 = some m.cls := hown
  have hS : va_S A s.heap s.heap [] := va_S.rf
  have hl : lv_has ls 4 [(0, .ref h0), (1, .int o), (2, .long x)] := hl
  refine lv_iload_n hx hb dX0_nameCount_0 rfl (lv_at hl 1 rfl) ?_
  refine lv_if_lt (tgt := 17) hx hb dX0_nameCount_1 (by decide) (fun c_1 => ?_) (fun c_1 => ?_)
  · skip
    exact sk_vret hx hb hr hlocks hK hP hD hS (⟨f4, rfl⟩) (Nat.le_of_ble_eq_true rfl) (Nat.le_of_ble_eq_true rfl) dX0_nameCount_17
  · obtain ⟨k_2, hk_2, rfl⟩ := nof o c_1
    refine lv_iload_n hx hb dX0_nameCount_4 rfl (lv_at hl 1 rfl) ?_
    refine lv_bipush (v := 10) hx hb dX0_nameCount_5 (by decide) ?_
    refine lv_icmp_ge (tgt := 17) hx hb dX0_nameCount_7 (by decide) (fun c_3 => ?_) (fun c_3 => ?_)
    · have c_3 : 10 ≤ k_2 := (nle 10 k_2 (by omega) (by omega)).mp c_3
      exact sk_vret hx hb hr hlocks hK hP hD hS (⟨f4, rfl⟩) (Nat.le_of_ble_eq_true rfl) (Nat.le_of_ble_eq_true rfl) dX0_nameCount_17
    · have c_3 : ¬ (10 ≤ k_2) := fun h => c_3 ((nle 10 k_2 (by omega) (by omega)).mpr h)
      refine lv_aload_n hx hb dX0_nameCount_10 rfl (lv_at hl 0 rfl) ?_
      refine sk_get (v := .ref k4) (C := RX0) (T := TX0) (N := 6) hx hb hts inlX0 hown hK hP 0 rfl rfl 3 (by decide) w_1_132 rfl dX0_nameCount_11 ?_
      refine lv_iload_n hx hb dX0_nameCount_14 rfl (lv_at hl 1 rfl) ?_
      refine lv_lload_n hx hb dX0_nameCount_15 rfl (lv_at hl 2 rfl) ?_
      refine sk_lastO (ws' := fun f_4 => [(h0, .inr (0, [.ref k1, .ref k2, .ref k3, .ref k4, .int (nI cl), .int (nI mw)])), (k4, .inl (cJ, 10, .inr (.inl f_4)))]) hx hb hK hP hD hS 1 1 rfl rfl (vin k_2 10 (by omega) (by omega)) (fun _ => rfl) dX0_nameCount_16 (fun f_4 H locs hP hD hS => ?_)
      exact sk_vret hx hb hr hlocks hK hP hD hS (⟨f_4, rfl⟩) (Nat.le_of_ble_eq_true rfl) (Nat.le_of_ble_eq_true rfl) dX0_nameCount_17
theorem lg_nonneg {a : Int64} (h : ¬ lg_cmp a 0 < 0) : 0 ≤ a.toInt := by
  rw [lg_cmp_lt, Int64.lt_iff_toInt_lt] at h
  have e0 : (0 : Int64).toInt = 0 := rfl
  rw [e0] at h
  omega
theorem lg_below10 {a : Int64} (h : ¬ 0 ≤ lg_cmp a 10) : a.toInt < (10 : Nat) := by
  rw [lg_cmp_ge, Int64.le_iff_toInt_le] at h
  have e0 : (10 : Int64).toInt = 10 := rfl
  rw [e0] at h
  omega
theorem lg_ne0 {a : Int64} (h : ¬ lg_cmp a 0 = 0) : ¬ a = 0 := fun q => h ((lg_cmp_eq a 0).mpr q)
theorem dX0_ofOne_0 : decode cX0_ofOne 0 = .ok (.iload_n 1, 1) := by decide +kernel
theorem dX0_ofOne_1 : decode cX0_ofOne 1 = .ok (.sipush 20001, 3) := by decide +kernel
theorem dX0_ofOne_4 : decode cX0_ofOne 4 = .ok (.if_icmp .ne 15, 3) := by decide +kernel
theorem dX0_ofOne_19 : decode cX0_ofOne 19 = .ok (.lload_n 2, 1) := by decide +kernel
theorem dX0_ofOne_20 : decode cX0_ofOne 20 = .ok (.lconst 0, 1) := by decide +kernel
theorem dX0_ofOne_21 : decode cX0_ofOne 21 = .ok (.lcmp, 1) := by decide +kernel
theorem dX0_ofOne_22 : decode cX0_ofOne 22 = .ok (.ifCond .lt 21, 3) := by decide +kernel
theorem dX0_ofOne_43 : decode cX0_ofOne 43 = .ok (.lconst 0, 1) := by decide +kernel
theorem dX0_ofOne_44 : decode cX0_ofOne 44 = .ok (.lreturn, 1) := by decide +kernel
theorem dX0_ofOne_25 : decode cX0_ofOne 25 = .ok (.lload_n 2, 1) := by decide +kernel
theorem dX0_ofOne_26 : decode cX0_ofOne 26 = .ok (.ldc2_w 49, 3) := by decide +kernel
theorem dX0_ofOne_29 : decode cX0_ofOne 29 = .ok (.lcmp, 1) := by decide +kernel
theorem dX0_ofOne_30 : decode cX0_ofOne 30 = .ok (.ifCond .ge 13, 3) := by decide +kernel
theorem dX0_ofOne_33 : decode cX0_ofOne 33 = .ok (.aload_n 0, 1) := by decide +kernel
theorem dX0_ofOne_34 : decode cX0_ofOne 34 = .ok (.getfield 24, 3) := by decide +kernel
theorem dX0_ofOne_37 : decode cX0_ofOne 37 = .ok (.lload_n 2, 1) := by decide +kernel
theorem dX0_ofOne_38 : decode cX0_ofOne 38 = .ok (.l2i, 1) := by decide +kernel
theorem dX0_ofOne_39 : decode cX0_ofOne 39 = .ok (.laload, 1) := by decide +kernel
theorem dX0_ofOne_40 : decode cX0_ofOne 40 = .ok (.goto 4, 3) := by decide +kernel
theorem dX0_ofOne_7 : decode cX0_ofOne 7 = .ok (.lload_n 2, 1) := by decide +kernel
theorem dX0_ofOne_8 : decode cX0_ofOne 8 = .ok (.lconst 0, 1) := by decide +kernel
theorem dX0_ofOne_9 : decode cX0_ofOne 9 = .ok (.lcmp, 1) := by decide +kernel
theorem dX0_ofOne_10 : decode cX0_ofOne 10 = .ok (.ifCond .ne 7, 3) := by decide +kernel
theorem dX0_ofOne_17 : decode cX0_ofOne 17 = .ok (.lconst 0, 1) := by decide +kernel
theorem dX0_ofOne_18 : decode cX0_ofOne 18 = .ok (.lreturn, 1) := by decide +kernel
theorem dX0_ofOne_13 : decode cX0_ofOne 13 = .ok (.lconst 1, 1) := by decide +kernel
theorem dX0_ofOne_14 : decode cX0_ofOne 14 = .ok (.goto 4, 3) := by decide +kernel
theorem w_4_6 : (Cond.constantLong RX0 49 (10)) ∈ wsL_law := sk_mem (ck_4 _ (List.mem_of_getElem? (i := 6) rfl)) rfl
theorem w_4_5 : (Cond.code yX0_ofOne cX0_ofOne 4 (some .long)) ∈ wsL_law := sk_mem (ck_4 _ (List.mem_of_getElem? (i := 5) rfl)) rfl
set_option maxHeartbeats 4000000 in
set_option maxRecDepth 100000 in
theorem c_Code_ofOne (l : Launch) (D : va_G) (cI cJ cC cZ cS : ClassId) (h0 : Nat) (k1 : Nat) (k2 : Nat) (k3 : Nat) (k4 : Nat) (cl : Nat) (mw : Nat) (f4 : Nat → Int64) (o : Int32) (x : Int64)  : skM l yX0_ofOne cX0_ofOne 4 (some .long) 0 0 0 0 D (skT cI cJ cC cZ cS) [.ref h0, .int o, .long x] [(h0, .inr (0, [.ref k1, .ref k2, .ref k3, .ref k4, .int (nI cl), .int (nI mw)])), (k4, .inl (cJ, 10, .inr (.inl f4)))] (skL D (skT cI cJ cC cZ cS) (fun (r : Int64) (u : va_W) => u = [(h0, .inr (0, [.ref k1, .ref k2, .ref k3, .ref k4, .int (nI cl), .int (nI mw)])), (k4, .inl (cJ, 10, .inr (.inl f4)))])) := by
  refine skM_of (by decide +kernel) (Nat.le_of_ble_eq_true rfl) ?_
  intro p e s m below meth c A ls E hP hD hl
  obtain ⟨hx, hb, hr, hml, hlocks, hin, hown, hts, hK, hA⟩ := E
  have hown : s.vm.findClass RX0 = some m.cls := hown
  have hS : va_S A s.heap s.heap [] := va_S.rf
  have hl : lv_has ls 4 [(0, .ref h0), (1, .int o), (2, .long x)] := hl
  refine lv_iload_n hx hb dX0_ofOne_0 rfl (lv_at hl 1 rfl) ?_
  refine lv_sipush (v := 20001) hx hb dX0_ofOne_1 (by decide) ?_
  refine lv_icmp_ne (tgt := 19) hx hb dX0_ofOne_4 (by decide) (fun c_1 => ?_) (fun c_1 => ?_)
  · skip
    refine lv_lload_n hx hb dX0_ofOne_19 rfl (lv_at hl 2 rfl) ?_
    refine lv_lconst (v := 0) hx hb dX0_ofOne_20 (by decide) ?_
    refine W.lcmp hx hb dX0_ofOne_21 ?_
    refine lv_if_lt (tgt := 43) hx hb dX0_ofOne_22 (by decide) (fun c_2 => ?_) (fun c_2 => ?_)
    · skip
      refine lv_lconst (v := 0) hx hb dX0_ofOne_43 (by decide) ?_
      exact sk_lret hx hb hr hlocks hK hP hD hS rfl (Nat.le_of_ble_eq_true rfl) (Nat.le_of_ble_eq_true rfl) dX0_ofOne_44
    · skip
      refine lv_lload_n hx hb dX0_ofOne_25 rfl (lv_at hl 2 rfl) ?_
      refine lv_ldc2 (v := 10) hx hb hown (hts _ w_4_6) dX0_ofOne_26 ?_
      refine W.lcmp hx hb dX0_ofOne_29 ?_
      refine lv_if_ge (tgt := 43) hx hb dX0_ofOne_30 (by decide) (fun c_3 => ?_) (fun c_3 => ?_)
      · skip
        refine lv_lconst (v := 0) hx hb dX0_ofOne_43 (by decide) ?_
        exact sk_lret hx hb hr hlocks hK hP hD hS rfl (Nat.le_of_ble_eq_true rfl) (Nat.le_of_ble_eq_true rfl) dX0_ofOne_44
      · skip
        refine lv_aload_n hx hb dX0_ofOne_33 rfl (lv_at hl 0 rfl) ?_
        refine sk_get (v := .ref k4) (C := RX0) (T := TX0) (N := 6) hx hb hts inlX0 hown hK hP 0 rfl rfl 3 (by decide) w_1_132 rfl dX0_ofOne_34 ?_
        refine lv_lload_n hx hb dX0_ofOne_37 rfl (lv_at hl 2 rfl) ?_
        refine lv_l2i hx hb dX0_ofOne_38 rfl ?_
        obtain ⟨k_4, hk_4, ek_4⟩ := nl2i (a := x) (n := 10) (lg_nonneg c_2) (lg_below10 c_3) (by omega)
        refine sk_top (nI k_4) ek_4 ?_
        refine va_lald hx hb hK.1 hP 1 1 rfl rfl (vin k_4 10 (by omega) (by omega)) dX0_ofOne_39 ?_
        refine lv_topl (fun v_5 ev_5 => ?_)
        refine lv_goto (tgt := 44) hx hb dX0_ofOne_40 (by decide) ?_
        exact sk_lret hx hb hr hlocks hK hP hD hS rfl (Nat.le_of_ble_eq_true rfl) (Nat.le_of_ble_eq_true rfl) dX0_ofOne_44
  · skip
    refine lv_lload_n hx hb dX0_ofOne_7 rfl (lv_at hl 2 rfl) ?_
    refine lv_lconst (v := 0) hx hb dX0_ofOne_8 (by decide) ?_
    refine W.lcmp hx hb dX0_ofOne_9 ?_
    refine lv_if_ne (tgt := 17) hx hb dX0_ofOne_10 (by decide) (fun c_6 => ?_) (fun c_6 => ?_)
    · skip
      refine lv_lconst (v := 0) hx hb dX0_ofOne_17 (by decide) ?_
      exact sk_lret hx hb hr hlocks hK hP hD hS rfl (Nat.le_of_ble_eq_true rfl) (Nat.le_of_ble_eq_true rfl) dX0_ofOne_18
    · skip
      refine lv_lconst (v := 1) hx hb dX0_ofOne_13 (by decide) ?_
      refine lv_goto (tgt := 18) hx hb dX0_ofOne_14 (by decide) ?_
      exact sk_lret hx hb hr hlocks hK hP hD hS rfl (Nat.le_of_ble_eq_true rfl) (Nat.le_of_ble_eq_true rfl) dX0_ofOne_18
theorem dX0_bounded_0 : decode cX0_bounded 0 = .ok (.lload_n 0, 1) := by decide +kernel
theorem dX0_bounded_1 : decode cX0_bounded 1 = .ok (.ldc2_w 64, 3) := by decide +kernel
theorem dX0_bounded_4 : decode cX0_bounded 4 = .ok (.lcmp, 1) := by decide +kernel
theorem dX0_bounded_5 : decode cX0_bounded 5 = .ok (.ifCond .le 7, 3) := by decide +kernel
theorem dX0_bounded_12 : decode cX0_bounded 12 = .ok (.lload_n 0, 1) := by decide +kernel
theorem dX0_bounded_13 : decode cX0_bounded 13 = .ok (.ldc2_w 66, 3) := by decide +kernel
theorem dX0_bounded_16 : decode cX0_bounded 16 = .ok (.lcmp, 1) := by decide +kernel
theorem dX0_bounded_17 : decode cX0_bounded 17 = .ok (.ifCond .ge 9, 3) := by decide +kernel
theorem dX0_bounded_26 : decode cX0_bounded 26 = .ok (.lload_n 0, 1) := by decide +kernel
theorem dX0_bounded_27 : decode cX0_bounded 27 = .ok (.lreturn, 1) := by decide +kernel
theorem dX0_bounded_20 : decode cX0_bounded 20 = .ok (.ldc2_w 66, 3) := by decide +kernel
theorem dX0_bounded_23 : decode cX0_bounded 23 = .ok (.goto 4, 3) := by decide +kernel
theorem dX0_bounded_8 : decode cX0_bounded 8 = .ok (.ldc2_w 64, 3) := by decide +kernel
theorem dX0_bounded_11 : decode cX0_bounded 11 = .ok (.lreturn, 1) := by decide +kernel
theorem w_3_231 : (Cond.constantLong RX0 64 (1000000)) ∈ wsL_law := sk_mem (ck_3 _ (List.mem_of_getElem? (i := 231) rfl)) rfl
theorem w_3_232 : (Cond.constantLong RX0 66 (-1000000)) ∈ wsL_law := sk_mem (ck_3 _ (List.mem_of_getElem? (i := 232) rfl)) rfl
theorem w_3_230 : (Cond.code yX0_bounded cX0_bounded 2 (some .long)) ∈ wsL_law := sk_mem (ck_3 _ (List.mem_of_getElem? (i := 230) rfl)) rfl
set_option maxHeartbeats 4000000 in
set_option maxRecDepth 100000 in
theorem c_bounded (l : Launch) (D : va_G) (cI cJ cC cZ cS : ClassId) (x : Int64)  : skM l yX0_bounded cX0_bounded 2 (some .long) 0 0 0 0 D (skT cI cJ cC cZ cS) [.long x] [] (skL D (skT cI cJ cC cZ cS) (fun (r : Int64) (u : va_W) => u = [])) := by
  refine skM_of (by decide +kernel) (Nat.le_of_ble_eq_true rfl) ?_
  intro p e s m below meth c A ls E hP hD hl
  obtain ⟨hx, hb, hr, hml, hlocks, hin, hown, hts, hK, hA⟩ := E
  have hown : s.vm.findClass RX0 = some m.cls := hown
  have hS : va_S A s.heap s.heap [] := va_S.rf
  have hl : lv_has ls 2 [(0, .long x)] := hl
  refine lv_lload_n hx hb dX0_bounded_0 rfl (lv_at hl 0 rfl) ?_
  refine lv_ldc2 (v := 1000000) hx hb hown (hts _ w_3_231) dX0_bounded_1 ?_
  refine W.lcmp hx hb dX0_bounded_4 ?_
  refine lv_if_le (tgt := 12) hx hb dX0_bounded_5 (by decide) (fun c_1 => ?_) (fun c_1 => ?_)
  · skip
    refine lv_lload_n hx hb dX0_bounded_12 rfl (lv_at hl 0 rfl) ?_
    refine lv_ldc2 (v := (-1000000)) hx hb hown (hts _ w_3_232) dX0_bounded_13 ?_
    refine W.lcmp hx hb dX0_bounded_16 ?_
    refine lv_if_ge (tgt := 26) hx hb dX0_bounded_17 (by decide) (fun c_2 => ?_) (fun c_2 => ?_)
    · skip
      refine lv_lload_n hx hb dX0_bounded_26 rfl (lv_at hl 0 rfl) ?_
      exact sk_lret hx hb hr hlocks hK hP hD hS rfl (Nat.le_of_ble_eq_true rfl) (Nat.le_of_ble_eq_true rfl) dX0_bounded_27
    · skip
      refine lv_ldc2 (v := (-1000000)) hx hb hown (hts _ w_3_232) dX0_bounded_20 ?_
      refine lv_goto (tgt := 27) hx hb dX0_bounded_23 (by decide) ?_
      exact sk_lret hx hb hr hlocks hK hP hD hS rfl (Nat.le_of_ble_eq_true rfl) (Nat.le_of_ble_eq_true rfl) dX0_bounded_27
  · skip
    refine lv_ldc2 (v := 1000000) hx hb hown (hts _ w_3_231) dX0_bounded_8 ?_
    exact sk_lret hx hb hr hlocks hK hP hD hS rfl (Nat.le_of_ble_eq_true rfl) (Nat.le_of_ble_eq_true rfl) dX0_bounded_11
theorem dJ9_floorDiv_f86c9_0 : decode cJ9_floorDiv_f86c9 0 = .ok (.lload_n 0, 1) := by decide +kernel
theorem dJ9_floorDiv_f86c9_1 : decode cJ9_floorDiv_f86c9 1 = .ok (.lload_n 2, 1) := by decide +kernel
theorem dJ9_floorDiv_f86c9_2 : decode cJ9_floorDiv_f86c9 2 = .ok (.ldiv, 1) := by decide +kernel
theorem dJ9_floorDiv_f86c9_3 : decode cJ9_floorDiv_f86c9 3 = .ok (.lstore 4, 2) := by decide +kernel
theorem dJ9_floorDiv_f86c9_5 : decode cJ9_floorDiv_f86c9 5 = .ok (.lload_n 0, 1) := by decide +kernel
theorem dJ9_floorDiv_f86c9_6 : decode cJ9_floorDiv_f86c9 6 = .ok (.lload_n 2, 1) := by decide +kernel
theorem dJ9_floorDiv_f86c9_7 : decode cJ9_floorDiv_f86c9 7 = .ok (.lxor, 1) := by decide +kernel
theorem dJ9_floorDiv_f86c9_8 : decode cJ9_floorDiv_f86c9 8 = .ok (.lconst 0, 1) := by decide +kernel
theorem dJ9_floorDiv_f86c9_9 : decode cJ9_floorDiv_f86c9 9 = .ok (.lcmp, 1) := by decide +kernel
theorem dJ9_floorDiv_f86c9_10 : decode cJ9_floorDiv_f86c9 10 = .ok (.ifCond .ge 17, 3) := by decide +kernel
theorem dJ9_floorDiv_f86c9_27 : decode cJ9_floorDiv_f86c9 27 = .ok (.lload 4, 2) := by decide +kernel
theorem dJ9_floorDiv_f86c9_29 : decode cJ9_floorDiv_f86c9 29 = .ok (.lreturn, 1) := by decide +kernel
theorem dJ9_floorDiv_f86c9_13 : decode cJ9_floorDiv_f86c9 13 = .ok (.lload 4, 2) := by decide +kernel
theorem dJ9_floorDiv_f86c9_15 : decode cJ9_floorDiv_f86c9 15 = .ok (.lload_n 2, 1) := by decide +kernel
theorem dJ9_floorDiv_f86c9_16 : decode cJ9_floorDiv_f86c9 16 = .ok (.lmul, 1) := by decide +kernel
theorem dJ9_floorDiv_f86c9_17 : decode cJ9_floorDiv_f86c9 17 = .ok (.lload_n 0, 1) := by decide +kernel
theorem dJ9_floorDiv_f86c9_18 : decode cJ9_floorDiv_f86c9 18 = .ok (.lcmp, 1) := by decide +kernel
theorem dJ9_floorDiv_f86c9_19 : decode cJ9_floorDiv_f86c9 19 = .ok (.ifCond .eq 8, 3) := by decide +kernel
theorem dJ9_floorDiv_f86c9_22 : decode cJ9_floorDiv_f86c9 22 = .ok (.lload 4, 2) := by decide +kernel
theorem dJ9_floorDiv_f86c9_24 : decode cJ9_floorDiv_f86c9 24 = .ok (.lconst 1, 1) := by decide +kernel
theorem dJ9_floorDiv_f86c9_25 : decode cJ9_floorDiv_f86c9 25 = .ok (.lsub, 1) := by decide +kernel
theorem dJ9_floorDiv_f86c9_26 : decode cJ9_floorDiv_f86c9 26 = .ok (.lreturn, 1) := by decide +kernel
theorem w_3_235 : (Cond.code yJ9_floorDiv_f86c9 cJ9_floorDiv_f86c9 6 (some .long)) ∈ wsL_law := sk_mem (ck_3 _ (List.mem_of_getElem? (i := 235) rfl)) rfl
set_option maxHeartbeats 4000000 in
set_option maxRecDepth 100000 in
theorem c_floorDiv (l : Launch) (D : va_G) (cI cJ cC cZ cS : ClassId) (x : Int64) (y : Int64) (hy : ¬ y = 0) : skM l yJ9_floorDiv_f86c9 cJ9_floorDiv_f86c9 6 (some .long) 0 0 0 0 D (skT cI cJ cC cZ cS) [.long x, .long y] [] (skL D (skT cI cJ cC cZ cS) (fun (r : Int64) (u : va_W) => u = [])) := by
  refine skM_of (by decide +kernel) (Nat.le_of_ble_eq_true rfl) ?_
  intro p e s m below meth c A ls E hP hD hl
  obtain ⟨hx, hb, hr, hml, hlocks, hin, hown, hts, hK, hA⟩ := E
  have hown : s.vm.findClass RJ9 = some m.cls := hown
  have hS : va_S A s.heap s.heap [] := va_S.rf
  have hl : lv_has ls 6 [(0, .long x), (2, .long y)] := hl
  refine lv_lload_n hx hb dJ9_floorDiv_f86c9_0 rfl (lv_at hl 0 rfl) ?_
  refine lv_lload_n hx hb dJ9_floorDiv_f86c9_1 rfl (lv_at hl 1 rfl) ?_
  refine lv_ldiv hx hb dJ9_floorDiv_f86c9_2 hy ?_
  refine lv_topl (fun v_1 ev_1 => ?_)
  refine lv_lstore (lv' := [(4, .long v_1), (0, .long x), (2, .long y)]) hx hb dJ9_floorDiv_f86c9_3 hl (by decide) rfl (fun ls hl => ?_)
  refine lv_lload_n hx hb dJ9_floorDiv_f86c9_5 rfl (lv_at hl 1 rfl) ?_
  refine lv_lload_n hx hb dJ9_floorDiv_f86c9_6 rfl (lv_at hl 2 rfl) ?_
  refine lv_lxor hx hb dJ9_floorDiv_f86c9_7 ?_
  refine lv_topl (fun v_2 ev_2 => ?_)
  refine lv_lconst (v := 0) hx hb dJ9_floorDiv_f86c9_8 (by decide) ?_
  refine W.lcmp hx hb dJ9_floorDiv_f86c9_9 ?_
  refine lv_if_ge (tgt := 27) hx hb dJ9_floorDiv_f86c9_10 (by decide) (fun c_3 => ?_) (fun c_3 => ?_)
  · skip
    refine lv_lload hx hb dJ9_floorDiv_f86c9_27 (lv_at hl 0 rfl) ?_
    exact sk_lret hx hb hr hlocks hK hP hD hS rfl (Nat.le_of_ble_eq_true rfl) (Nat.le_of_ble_eq_true rfl) dJ9_floorDiv_f86c9_29
  · skip
    refine lv_lload hx hb dJ9_floorDiv_f86c9_13 (lv_at hl 0 rfl) ?_
    refine lv_lload_n hx hb dJ9_floorDiv_f86c9_15 rfl (lv_at hl 2 rfl) ?_
    refine lv_lmul hx hb dJ9_floorDiv_f86c9_16 ?_
    refine lv_topl (fun v_4 ev_4 => ?_)
    refine lv_lload_n hx hb dJ9_floorDiv_f86c9_17 rfl (lv_at hl 1 rfl) ?_
    refine W.lcmp hx hb dJ9_floorDiv_f86c9_18 ?_
    refine lv_if_eq (tgt := 27) hx hb dJ9_floorDiv_f86c9_19 (by decide) (fun c_5 => ?_) (fun c_5 => ?_)
    · skip
      refine lv_lload hx hb dJ9_floorDiv_f86c9_27 (lv_at hl 0 rfl) ?_
      exact sk_lret hx hb hr hlocks hK hP hD hS rfl (Nat.le_of_ble_eq_true rfl) (Nat.le_of_ble_eq_true rfl) dJ9_floorDiv_f86c9_29
    · skip
      refine lv_lload hx hb dJ9_floorDiv_f86c9_22 (lv_at hl 0 rfl) ?_
      refine lv_lconst (v := 1) hx hb dJ9_floorDiv_f86c9_24 (by decide) ?_
      refine lv_lsub hx hb dJ9_floorDiv_f86c9_25 ?_
      refine lv_topl (fun v_6 ev_6 => ?_)
      exact sk_lret hx hb hr hlocks hK hP hD hS rfl (Nat.le_of_ble_eq_true rfl) (Nat.le_of_ble_eq_true rfl) dJ9_floorDiv_f86c9_26
theorem dX0_ofTwo_0 : decode cX0_ofTwo 0 = .ok (.iload_n 0, 1) := by decide +kernel
theorem dX0_ofTwo_1 : decode cX0_ofTwo 1 = .ok (.tableswitch 158 30000 30009 #[55, 62, 69, 76, 92, 98, 104, 116, 128, 140], 55) := by decide +kernel
theorem dX0_ofTwo_56 : decode cX0_ofTwo 56 = .ok (.lload_n 1, 1) := by decide +kernel
theorem dX0_ofTwo_57 : decode cX0_ofTwo 57 = .ok (.lload_n 3, 1) := by decide +kernel
theorem dX0_ofTwo_58 : decode cX0_ofTwo 58 = .ok (.ladd, 1) := by decide +kernel
theorem dX0_ofTwo_59 : decode cX0_ofTwo 59 = .ok (.invokestatic 51, 3) := by decide +kernel
theorem dX0_ofTwo_62 : decode cX0_ofTwo 62 = .ok (.lreturn, 1) := by decide +kernel
theorem dX0_ofTwo_63 : decode cX0_ofTwo 63 = .ok (.lload_n 1, 1) := by decide +kernel
theorem dX0_ofTwo_64 : decode cX0_ofTwo 64 = .ok (.lload_n 3, 1) := by decide +kernel
theorem dX0_ofTwo_65 : decode cX0_ofTwo 65 = .ok (.lsub, 1) := by decide +kernel
theorem dX0_ofTwo_66 : decode cX0_ofTwo 66 = .ok (.invokestatic 51, 3) := by decide +kernel
theorem dX0_ofTwo_69 : decode cX0_ofTwo 69 = .ok (.lreturn, 1) := by decide +kernel
theorem dX0_ofTwo_70 : decode cX0_ofTwo 70 = .ok (.lload_n 1, 1) := by decide +kernel
theorem dX0_ofTwo_71 : decode cX0_ofTwo 71 = .ok (.lload_n 3, 1) := by decide +kernel
theorem dX0_ofTwo_72 : decode cX0_ofTwo 72 = .ok (.lmul, 1) := by decide +kernel
theorem dX0_ofTwo_73 : decode cX0_ofTwo 73 = .ok (.invokestatic 51, 3) := by decide +kernel
theorem dX0_ofTwo_76 : decode cX0_ofTwo 76 = .ok (.lreturn, 1) := by decide +kernel
theorem dX0_ofTwo_77 : decode cX0_ofTwo 77 = .ok (.lload_n 3, 1) := by decide +kernel
theorem dX0_ofTwo_78 : decode cX0_ofTwo 78 = .ok (.lconst 0, 1) := by decide +kernel
theorem dX0_ofTwo_79 : decode cX0_ofTwo 79 = .ok (.lcmp, 1) := by decide +kernel
theorem dX0_ofTwo_80 : decode cX0_ofTwo 80 = .ok (.ifCond .ne 7, 3) := by decide +kernel
theorem dX0_ofTwo_87 : decode cX0_ofTwo 87 = .ok (.lload_n 1, 1) := by decide +kernel
theorem dX0_ofTwo_88 : decode cX0_ofTwo 88 = .ok (.lload_n 3, 1) := by decide +kernel
theorem dX0_ofTwo_89 : decode cX0_ofTwo 89 = .ok (.invokestatic 55, 3) := by decide +kernel
theorem dX0_ofTwo_92 : decode cX0_ofTwo 92 = .ok (.lreturn, 1) := by decide +kernel
theorem dX0_ofTwo_83 : decode cX0_ofTwo 83 = .ok (.lconst 0, 1) := by decide +kernel
theorem dX0_ofTwo_84 : decode cX0_ofTwo 84 = .ok (.goto 8, 3) := by decide +kernel
theorem dX0_ofTwo_93 : decode cX0_ofTwo 93 = .ok (.lload_n 1, 1) := by decide +kernel
theorem dX0_ofTwo_94 : decode cX0_ofTwo 94 = .ok (.lload_n 3, 1) := by decide +kernel
theorem dX0_ofTwo_95 : decode cX0_ofTwo 95 = .ok (.invokestatic 59, 3) := by decide +kernel
theorem dX0_ofTwo_98 : decode cX0_ofTwo 98 = .ok (.lreturn, 1) := by decide +kernel
theorem dX0_ofTwo_99 : decode cX0_ofTwo 99 = .ok (.lload_n 1, 1) := by decide +kernel
theorem dX0_ofTwo_100 : decode cX0_ofTwo 100 = .ok (.lload_n 3, 1) := by decide +kernel
theorem dX0_ofTwo_101 : decode cX0_ofTwo 101 = .ok (.invokestatic 62, 3) := by decide +kernel
theorem dX0_ofTwo_104 : decode cX0_ofTwo 104 = .ok (.lreturn, 1) := by decide +kernel
theorem dX0_ofTwo_105 : decode cX0_ofTwo 105 = .ok (.lload_n 1, 1) := by decide +kernel
theorem dX0_ofTwo_106 : decode cX0_ofTwo 106 = .ok (.lload_n 3, 1) := by decide +kernel
theorem dX0_ofTwo_107 : decode cX0_ofTwo 107 = .ok (.lcmp, 1) := by decide +kernel
theorem dX0_ofTwo_108 : decode cX0_ofTwo 108 = .ok (.ifCond .ge 7, 3) := by decide +kernel
theorem dX0_ofTwo_115 : decode cX0_ofTwo 115 = .ok (.lconst 0, 1) := by decide +kernel
theorem dX0_ofTwo_116 : decode cX0_ofTwo 116 = .ok (.lreturn, 1) := by decide +kernel
theorem dX0_ofTwo_111 : decode cX0_ofTwo 111 = .ok (.lconst 1, 1) := by decide +kernel
theorem dX0_ofTwo_112 : decode cX0_ofTwo 112 = .ok (.goto 4, 3) := by decide +kernel
theorem dX0_ofTwo_117 : decode cX0_ofTwo 117 = .ok (.lload_n 1, 1) := by decide +kernel
theorem dX0_ofTwo_118 : decode cX0_ofTwo 118 = .ok (.lload_n 3, 1) := by decide +kernel
theorem dX0_ofTwo_119 : decode cX0_ofTwo 119 = .ok (.lcmp, 1) := by decide +kernel
theorem dX0_ofTwo_120 : decode cX0_ofTwo 120 = .ok (.ifCond .le 7, 3) := by decide +kernel
theorem dX0_ofTwo_127 : decode cX0_ofTwo 127 = .ok (.lconst 0, 1) := by decide +kernel
theorem dX0_ofTwo_128 : decode cX0_ofTwo 128 = .ok (.lreturn, 1) := by decide +kernel
theorem dX0_ofTwo_123 : decode cX0_ofTwo 123 = .ok (.lconst 1, 1) := by decide +kernel
theorem dX0_ofTwo_124 : decode cX0_ofTwo 124 = .ok (.goto 4, 3) := by decide +kernel
theorem dX0_ofTwo_129 : decode cX0_ofTwo 129 = .ok (.lload_n 1, 1) := by decide +kernel
theorem dX0_ofTwo_130 : decode cX0_ofTwo 130 = .ok (.lload_n 3, 1) := by decide +kernel
theorem dX0_ofTwo_131 : decode cX0_ofTwo 131 = .ok (.lcmp, 1) := by decide +kernel
theorem dX0_ofTwo_132 : decode cX0_ofTwo 132 = .ok (.ifCond .ne 7, 3) := by decide +kernel
theorem dX0_ofTwo_139 : decode cX0_ofTwo 139 = .ok (.lconst 0, 1) := by decide +kernel
theorem dX0_ofTwo_140 : decode cX0_ofTwo 140 = .ok (.lreturn, 1) := by decide +kernel
theorem dX0_ofTwo_135 : decode cX0_ofTwo 135 = .ok (.lconst 1, 1) := by decide +kernel
theorem dX0_ofTwo_136 : decode cX0_ofTwo 136 = .ok (.goto 4, 3) := by decide +kernel
theorem dX0_ofTwo_141 : decode cX0_ofTwo 141 = .ok (.lload_n 1, 1) := by decide +kernel
theorem dX0_ofTwo_142 : decode cX0_ofTwo 142 = .ok (.lconst 0, 1) := by decide +kernel
theorem dX0_ofTwo_143 : decode cX0_ofTwo 143 = .ok (.lcmp, 1) := by decide +kernel
theorem dX0_ofTwo_144 : decode cX0_ofTwo 144 = .ok (.ifCond .eq 13, 3) := by decide +kernel
theorem dX0_ofTwo_157 : decode cX0_ofTwo 157 = .ok (.lconst 0, 1) := by decide +kernel
theorem dX0_ofTwo_158 : decode cX0_ofTwo 158 = .ok (.lreturn, 1) := by decide +kernel
theorem dX0_ofTwo_147 : decode cX0_ofTwo 147 = .ok (.lload_n 3, 1) := by decide +kernel
theorem dX0_ofTwo_148 : decode cX0_ofTwo 148 = .ok (.lconst 0, 1) := by decide +kernel
theorem dX0_ofTwo_149 : decode cX0_ofTwo 149 = .ok (.lcmp, 1) := by decide +kernel
theorem dX0_ofTwo_150 : decode cX0_ofTwo 150 = .ok (.ifCond .eq 7, 3) := by decide +kernel
theorem dX0_ofTwo_153 : decode cX0_ofTwo 153 = .ok (.lconst 1, 1) := by decide +kernel
theorem dX0_ofTwo_154 : decode cX0_ofTwo 154 = .ok (.goto 4, 3) := by decide +kernel
theorem dX0_ofTwo_159 : decode cX0_ofTwo 159 = .ok (.lload_n 1, 1) := by decide +kernel
theorem dX0_ofTwo_160 : decode cX0_ofTwo 160 = .ok (.lconst 0, 1) := by decide +kernel
theorem dX0_ofTwo_161 : decode cX0_ofTwo 161 = .ok (.lcmp, 1) := by decide +kernel
theorem dX0_ofTwo_162 : decode cX0_ofTwo 162 = .ok (.ifCond .ne 9, 3) := by decide +kernel
theorem dX0_ofTwo_171 : decode cX0_ofTwo 171 = .ok (.lconst 1, 1) := by decide +kernel
theorem dX0_ofTwo_172 : decode cX0_ofTwo 172 = .ok (.goto 4, 3) := by decide +kernel
theorem dX0_ofTwo_176 : decode cX0_ofTwo 176 = .ok (.lreturn, 1) := by decide +kernel
theorem dX0_ofTwo_165 : decode cX0_ofTwo 165 = .ok (.lload_n 3, 1) := by decide +kernel
theorem dX0_ofTwo_166 : decode cX0_ofTwo 166 = .ok (.lconst 0, 1) := by decide +kernel
theorem dX0_ofTwo_167 : decode cX0_ofTwo 167 = .ok (.lcmp, 1) := by decide +kernel
theorem dX0_ofTwo_168 : decode cX0_ofTwo 168 = .ok (.ifCond .eq 7, 3) := by decide +kernel
theorem dX0_ofTwo_175 : decode cX0_ofTwo 175 = .ok (.lconst 0, 1) := by decide +kernel
theorem w_3_228 : (Cond.methodLink RX0 51 yX0_bounded) ∈ wsL_law := sk_mem (ck_3 _ (List.mem_of_getElem? (i := 228) rfl)) rfl
theorem w_3_229 : (Cond.static yX0_bounded) ∈ wsL_law := sk_mem (ck_3 _ (List.mem_of_getElem? (i := 229) rfl)) rfl
theorem w_1_8 : (Cond.initialized RX0) ∈ wsL_law := sk_mem (ck_1 _ (List.mem_of_getElem? (i := 8) rfl)) rfl
theorem w_3_233 : (Cond.methodLink RX0 55 yJ9_floorDiv_f86c9) ∈ wsL_law := sk_mem (ck_3 _ (List.mem_of_getElem? (i := 233) rfl)) rfl
theorem w_3_234 : (Cond.static yJ9_floorDiv_f86c9) ∈ wsL_law := sk_mem (ck_3 _ (List.mem_of_getElem? (i := 234) rfl)) rfl
theorem w_1_3 : (Cond.initialized RJ9) ∈ wsL_law := sk_mem (ck_1 _ (List.mem_of_getElem? (i := 3) rfl)) rfl
theorem w_3_236 : (Cond.methodLink RX0 59 Lib.MathLoose.min_long.x) ∈ wsL_law := sk_mem (ck_3 _ (List.mem_of_getElem? (i := 236) rfl)) rfl
theorem w_3_237 : (Cond.static Lib.MathLoose.min_long.x) ∈ wsL_law := sk_mem (ck_3 _ (List.mem_of_getElem? (i := 237) rfl)) rfl
theorem w_3_238 : (Cond.code Lib.MathLoose.min_long.x Lib.MathLoose.min_long.code 4 (some .long)) ∈ wsL_law := sk_mem (ck_3 _ (List.mem_of_getElem? (i := 238) rfl)) rfl
theorem w_3_239 : (Cond.methodLink RX0 62 Lib.MathLoose.max_long.x) ∈ wsL_law := sk_mem (ck_3 _ (List.mem_of_getElem? (i := 239) rfl)) rfl
theorem w_4_0 : (Cond.static Lib.MathLoose.max_long.x) ∈ wsL_law := sk_mem (ck_4 _ (List.mem_of_getElem? (i := 0) rfl)) rfl
theorem w_4_1 : (Cond.code Lib.MathLoose.max_long.x Lib.MathLoose.max_long.code 4 (some .long)) ∈ wsL_law := sk_mem (ck_4 _ (List.mem_of_getElem? (i := 1) rfl)) rfl
theorem w_3_227 : (Cond.code yX0_ofTwo cX0_ofTwo 5 (some .long)) ∈ wsL_law := sk_mem (ck_3 _ (List.mem_of_getElem? (i := 227) rfl)) rfl
set_option maxHeartbeats 4000000 in
set_option maxRecDepth 100000 in
theorem c_ofTwo (l : Launch) (D : va_G) (cI cJ cC cZ cS : ClassId) (o : Int32) (x : Int64) (y : Int64)  : skM l yX0_ofTwo cX0_ofTwo 5 (some .long) 1 25 0 0 D (skT cI cJ cC cZ cS) [.int o, .long x, .long y] [] (skL D (skT cI cJ cC cZ cS) (fun (r : Int64) (u : va_W) => u = [])) := by
  refine skM_of (by decide +kernel) (Nat.le_of_ble_eq_true rfl) ?_
  intro p e s m below meth c A ls E hP hD hl
  obtain ⟨hx, hb, hr, hml, hlocks, hin, hown, hts, hK, hA⟩ := E
  have hown : s.vm.findClass RX0 = some m.cls := hown
  have hS : va_S A s.heap s.heap [] := va_S.rf
  have hl : lv_has ls 5 [(0, .int o), (1, .long x), (3, .long y)] := hl
  refine lv_iload_n hx hb dX0_ofTwo_0 rfl (lv_at hl 0 rfl) ?_
  by_cases g_1 : o = 30000
  · refine lv_tableIn (off := 55) (tgt := 56) hx hb dX0_ofTwo_1 (by rw [g_1]; decide) (by rw [g_1]; decide) (by rw [g_1]; rfl) (by decide) ?_
    refine lv_lload_n hx hb dX0_ofTwo_56 rfl (lv_at hl 1 rfl) ?_
    refine lv_lload_n hx hb dX0_ofTwo_57 rfl (lv_at hl 2 rfl) ?_
    refine lv_ladd hx hb dX0_ofTwo_58 ?_
    refine lv_topl (fun v_2 ev_2 => ?_)
    refine sk_Sl (n := 1) (rest := []) (wr := []) ⟨hx, hb, hml, hown, hts⟩ hl.1 (c_bounded l D cI cJ cC cZ cS v_2) w_3_228 w_3_229 w_1_8 w_3_230 (by decide +kernel) ⟨⟨(Nat.le_of_ble_eq_true rfl), (Nat.le_of_ble_eq_true rfl)⟩, (Nat.le_of_ble_eq_true rfl), (Nat.le_of_ble_eq_true rfl)⟩ hK hP hD hS hA [] [] rfl rfl (by decide +kernel) (by decide +kernel) (by decide +kernel) rfl rfl (Nat.le_of_ble_eq_true rfl) dX0_ofTwo_59 (fun r_3 u H locs hw hP hD hS => ?_)
    obtain rfl := hw
    have hP : va_P D vwCl [] H := hP
    have hD : va_D A [] := hD
    exact sk_lret hx hb hr hlocks hK hP hD hS rfl (Nat.le_of_ble_eq_true rfl) (Nat.le_of_ble_eq_true rfl) dX0_ofTwo_62
  by_cases g_4 : o = 30001
  · refine lv_tableIn (off := 62) (tgt := 63) hx hb dX0_ofTwo_1 (by rw [g_4]; decide) (by rw [g_4]; decide) (by rw [g_4]; rfl) (by decide) ?_
    refine lv_lload_n hx hb dX0_ofTwo_63 rfl (lv_at hl 1 rfl) ?_
    refine lv_lload_n hx hb dX0_ofTwo_64 rfl (lv_at hl 2 rfl) ?_
    refine lv_lsub hx hb dX0_ofTwo_65 ?_
    refine lv_topl (fun v_5 ev_5 => ?_)
    refine sk_Sl (n := 1) (rest := []) (wr := []) ⟨hx, hb, hml, hown, hts⟩ hl.1 (c_bounded l D cI cJ cC cZ cS v_5) w_3_228 w_3_229 w_1_8 w_3_230 (by decide +kernel) ⟨⟨(Nat.le_of_ble_eq_true rfl), (Nat.le_of_ble_eq_true rfl)⟩, (Nat.le_of_ble_eq_true rfl), (Nat.le_of_ble_eq_true rfl)⟩ hK hP hD hS hA [] [] rfl rfl (by decide +kernel) (by decide +kernel) (by decide +kernel) rfl rfl (Nat.le_of_ble_eq_true rfl) dX0_ofTwo_66 (fun r_6 u H locs hw hP hD hS => ?_)
    obtain rfl := hw
    have hP : va_P D vwCl [] H := hP
    have hD : va_D A [] := hD
    exact sk_lret hx hb hr hlocks hK hP hD hS rfl (Nat.le_of_ble_eq_true rfl) (Nat.le_of_ble_eq_true rfl) dX0_ofTwo_69
  by_cases g_7 : o = 30002
  · refine lv_tableIn (off := 69) (tgt := 70) hx hb dX0_ofTwo_1 (by rw [g_7]; decide) (by rw [g_7]; decide) (by rw [g_7]; rfl) (by decide) ?_
    refine lv_lload_n hx hb dX0_ofTwo_70 rfl (lv_at hl 1 rfl) ?_
    refine lv_lload_n hx hb dX0_ofTwo_71 rfl (lv_at hl 2 rfl) ?_
    refine lv_lmul hx hb dX0_ofTwo_72 ?_
    refine lv_topl (fun v_8 ev_8 => ?_)
    refine sk_Sl (n := 1) (rest := []) (wr := []) ⟨hx, hb, hml, hown, hts⟩ hl.1 (c_bounded l D cI cJ cC cZ cS v_8) w_3_228 w_3_229 w_1_8 w_3_230 (by decide +kernel) ⟨⟨(Nat.le_of_ble_eq_true rfl), (Nat.le_of_ble_eq_true rfl)⟩, (Nat.le_of_ble_eq_true rfl), (Nat.le_of_ble_eq_true rfl)⟩ hK hP hD hS hA [] [] rfl rfl (by decide +kernel) (by decide +kernel) (by decide +kernel) rfl rfl (Nat.le_of_ble_eq_true rfl) dX0_ofTwo_73 (fun r_9 u H locs hw hP hD hS => ?_)
    obtain rfl := hw
    have hP : va_P D vwCl [] H := hP
    have hD : va_D A [] := hD
    exact sk_lret hx hb hr hlocks hK hP hD hS rfl (Nat.le_of_ble_eq_true rfl) (Nat.le_of_ble_eq_true rfl) dX0_ofTwo_76
  by_cases g_10 : o = 30003
  · refine lv_tableIn (off := 76) (tgt := 77) hx hb dX0_ofTwo_1 (by rw [g_10]; decide) (by rw [g_10]; decide) (by rw [g_10]; rfl) (by decide) ?_
    refine lv_lload_n hx hb dX0_ofTwo_77 rfl (lv_at hl 2 rfl) ?_
    refine lv_lconst (v := 0) hx hb dX0_ofTwo_78 (by decide) ?_
    refine W.lcmp hx hb dX0_ofTwo_79 ?_
    refine lv_if_ne (tgt := 87) hx hb dX0_ofTwo_80 (by decide) (fun c_11 => ?_) (fun c_11 => ?_)
    · skip
      refine lv_lload_n hx hb dX0_ofTwo_87 rfl (lv_at hl 1 rfl) ?_
      refine lv_lload_n hx hb dX0_ofTwo_88 rfl (lv_at hl 2 rfl) ?_
      refine sk_Sl (n := 2) (rest := []) (wr := []) ⟨hx, hb, hml, hown, hts⟩ hl.1 (c_floorDiv l D cI cJ cC cZ cS x y (lg_ne0 c_11)) w_3_233 w_3_234 w_1_3 w_3_235 (by decide +kernel) ⟨⟨(Nat.le_of_ble_eq_true rfl), (Nat.le_of_ble_eq_true rfl)⟩, (Nat.le_of_ble_eq_true rfl), (Nat.le_of_ble_eq_true rfl)⟩ hK hP hD hS hA [] [] rfl rfl (by decide +kernel) (by decide +kernel) (by decide +kernel) rfl rfl (Nat.le_of_ble_eq_true rfl) dX0_ofTwo_89 (fun r_12 u H locs hw hP hD hS => ?_)
      obtain rfl := hw
      have hP : va_P D vwCl [] H := hP
      have hD : va_D A [] := hD
      exact sk_lret hx hb hr hlocks hK hP hD hS rfl (Nat.le_of_ble_eq_true rfl) (Nat.le_of_ble_eq_true rfl) dX0_ofTwo_92
    · skip
      refine lv_lconst (v := 0) hx hb dX0_ofTwo_83 (by decide) ?_
      refine lv_goto (tgt := 92) hx hb dX0_ofTwo_84 (by decide) ?_
      exact sk_lret hx hb hr hlocks hK hP hD hS rfl (Nat.le_of_ble_eq_true rfl) (Nat.le_of_ble_eq_true rfl) dX0_ofTwo_92
  by_cases g_13 : o = 30004
  · refine lv_tableIn (off := 92) (tgt := 93) hx hb dX0_ofTwo_1 (by rw [g_13]; decide) (by rw [g_13]; decide) (by rw [g_13]; rfl) (by decide) ?_
    refine lv_lload_n hx hb dX0_ofTwo_93 rfl (lv_at hl 1 rfl) ?_
    refine lv_lload_n hx hb dX0_ofTwo_94 rfl (lv_at hl 2 rfl) ?_
    refine va_mmin_long hx hb (by rw [hml]; exact hl.1.symm) hown (hts _ w_3_236) (hts _ w_3_237) (hts _ w_1_3) (hts _ w_3_238) (Nat.le_of_ble_eq_true rfl) (Nat.le_of_ble_eq_true rfl) (Nat.le_of_ble_eq_true rfl) (Nat.le_of_ble_eq_true rfl) dX0_ofTwo_95 ?_
    refine lv_topl (fun v_14 ev_14 => ?_)
    exact sk_lret hx hb hr hlocks hK hP hD hS rfl (Nat.le_of_ble_eq_true rfl) (Nat.le_of_ble_eq_true rfl) dX0_ofTwo_98
  by_cases g_15 : o = 30005
  · refine lv_tableIn (off := 98) (tgt := 99) hx hb dX0_ofTwo_1 (by rw [g_15]; decide) (by rw [g_15]; decide) (by rw [g_15]; rfl) (by decide) ?_
    refine lv_lload_n hx hb dX0_ofTwo_99 rfl (lv_at hl 1 rfl) ?_
    refine lv_lload_n hx hb dX0_ofTwo_100 rfl (lv_at hl 2 rfl) ?_
    refine va_mmax_long hx hb (by rw [hml]; exact hl.1.symm) hown (hts _ w_3_239) (hts _ w_4_0) (hts _ w_1_3) (hts _ w_4_1) (Nat.le_of_ble_eq_true rfl) (Nat.le_of_ble_eq_true rfl) (Nat.le_of_ble_eq_true rfl) (Nat.le_of_ble_eq_true rfl) dX0_ofTwo_101 ?_
    refine lv_topl (fun v_16 ev_16 => ?_)
    exact sk_lret hx hb hr hlocks hK hP hD hS rfl (Nat.le_of_ble_eq_true rfl) (Nat.le_of_ble_eq_true rfl) dX0_ofTwo_104
  by_cases g_17 : o = 30006
  · refine lv_tableIn (off := 104) (tgt := 105) hx hb dX0_ofTwo_1 (by rw [g_17]; decide) (by rw [g_17]; decide) (by rw [g_17]; rfl) (by decide) ?_
    refine lv_lload_n hx hb dX0_ofTwo_105 rfl (lv_at hl 1 rfl) ?_
    refine lv_lload_n hx hb dX0_ofTwo_106 rfl (lv_at hl 2 rfl) ?_
    refine W.lcmp hx hb dX0_ofTwo_107 ?_
    refine lv_if_ge (tgt := 115) hx hb dX0_ofTwo_108 (by decide) (fun c_18 => ?_) (fun c_18 => ?_)
    · skip
      refine lv_lconst (v := 0) hx hb dX0_ofTwo_115 (by decide) ?_
      exact sk_lret hx hb hr hlocks hK hP hD hS rfl (Nat.le_of_ble_eq_true rfl) (Nat.le_of_ble_eq_true rfl) dX0_ofTwo_116
    · skip
      refine lv_lconst (v := 1) hx hb dX0_ofTwo_111 (by decide) ?_
      refine lv_goto (tgt := 116) hx hb dX0_ofTwo_112 (by decide) ?_
      exact sk_lret hx hb hr hlocks hK hP hD hS rfl (Nat.le_of_ble_eq_true rfl) (Nat.le_of_ble_eq_true rfl) dX0_ofTwo_116
  by_cases g_19 : o = 30007
  · refine lv_tableIn (off := 116) (tgt := 117) hx hb dX0_ofTwo_1 (by rw [g_19]; decide) (by rw [g_19]; decide) (by rw [g_19]; rfl) (by decide) ?_
    refine lv_lload_n hx hb dX0_ofTwo_117 rfl (lv_at hl 1 rfl) ?_
    refine lv_lload_n hx hb dX0_ofTwo_118 rfl (lv_at hl 2 rfl) ?_
    refine W.lcmp hx hb dX0_ofTwo_119 ?_
    refine lv_if_le (tgt := 127) hx hb dX0_ofTwo_120 (by decide) (fun c_20 => ?_) (fun c_20 => ?_)
    · skip
      refine lv_lconst (v := 0) hx hb dX0_ofTwo_127 (by decide) ?_
      exact sk_lret hx hb hr hlocks hK hP hD hS rfl (Nat.le_of_ble_eq_true rfl) (Nat.le_of_ble_eq_true rfl) dX0_ofTwo_128
    · skip
      refine lv_lconst (v := 1) hx hb dX0_ofTwo_123 (by decide) ?_
      refine lv_goto (tgt := 128) hx hb dX0_ofTwo_124 (by decide) ?_
      exact sk_lret hx hb hr hlocks hK hP hD hS rfl (Nat.le_of_ble_eq_true rfl) (Nat.le_of_ble_eq_true rfl) dX0_ofTwo_128
  by_cases g_21 : o = 30008
  · refine lv_tableIn (off := 128) (tgt := 129) hx hb dX0_ofTwo_1 (by rw [g_21]; decide) (by rw [g_21]; decide) (by rw [g_21]; rfl) (by decide) ?_
    refine lv_lload_n hx hb dX0_ofTwo_129 rfl (lv_at hl 1 rfl) ?_
    refine lv_lload_n hx hb dX0_ofTwo_130 rfl (lv_at hl 2 rfl) ?_
    refine W.lcmp hx hb dX0_ofTwo_131 ?_
    refine lv_if_ne (tgt := 139) hx hb dX0_ofTwo_132 (by decide) (fun c_22 => ?_) (fun c_22 => ?_)
    · skip
      refine lv_lconst (v := 0) hx hb dX0_ofTwo_139 (by decide) ?_
      exact sk_lret hx hb hr hlocks hK hP hD hS rfl (Nat.le_of_ble_eq_true rfl) (Nat.le_of_ble_eq_true rfl) dX0_ofTwo_140
    · skip
      refine lv_lconst (v := 1) hx hb dX0_ofTwo_135 (by decide) ?_
      refine lv_goto (tgt := 140) hx hb dX0_ofTwo_136 (by decide) ?_
      exact sk_lret hx hb hr hlocks hK hP hD hS rfl (Nat.le_of_ble_eq_true rfl) (Nat.le_of_ble_eq_true rfl) dX0_ofTwo_140
  by_cases g_23 : o = 30009
  · refine lv_tableIn (off := 140) (tgt := 141) hx hb dX0_ofTwo_1 (by rw [g_23]; decide) (by rw [g_23]; decide) (by rw [g_23]; rfl) (by decide) ?_
    refine lv_lload_n hx hb dX0_ofTwo_141 rfl (lv_at hl 1 rfl) ?_
    refine lv_lconst (v := 0) hx hb dX0_ofTwo_142 (by decide) ?_
    refine W.lcmp hx hb dX0_ofTwo_143 ?_
    refine lv_if_eq (tgt := 157) hx hb dX0_ofTwo_144 (by decide) (fun c_24 => ?_) (fun c_24 => ?_)
    · skip
      refine lv_lconst (v := 0) hx hb dX0_ofTwo_157 (by decide) ?_
      exact sk_lret hx hb hr hlocks hK hP hD hS rfl (Nat.le_of_ble_eq_true rfl) (Nat.le_of_ble_eq_true rfl) dX0_ofTwo_158
    · skip
      refine lv_lload_n hx hb dX0_ofTwo_147 rfl (lv_at hl 2 rfl) ?_
      refine lv_lconst (v := 0) hx hb dX0_ofTwo_148 (by decide) ?_
      refine W.lcmp hx hb dX0_ofTwo_149 ?_
      refine lv_if_eq (tgt := 157) hx hb dX0_ofTwo_150 (by decide) (fun c_25 => ?_) (fun c_25 => ?_)
      · skip
        refine lv_lconst (v := 0) hx hb dX0_ofTwo_157 (by decide) ?_
        exact sk_lret hx hb hr hlocks hK hP hD hS rfl (Nat.le_of_ble_eq_true rfl) (Nat.le_of_ble_eq_true rfl) dX0_ofTwo_158
      · skip
        refine lv_lconst (v := 1) hx hb dX0_ofTwo_153 (by decide) ?_
        refine lv_goto (tgt := 158) hx hb dX0_ofTwo_154 (by decide) ?_
        exact sk_lret hx hb hr hlocks hK hP hD hS rfl (Nat.le_of_ble_eq_true rfl) (Nat.le_of_ble_eq_true rfl) dX0_ofTwo_158
  refine lv_tableOut (tgt := 159) hx hb dX0_ofTwo_1 (sk_out2 30000 30009 (by intro k hk1 hk2; rcases (show k = 30000 ∨ k = 30001 ∨ k = 30002 ∨ k = 30003 ∨ k = 30004 ∨ k = 30005 ∨ k = 30006 ∨ k = 30007 ∨ k = 30008 ∨ k = 30009 by omega) with rfl | rfl | rfl | rfl | rfl | rfl | rfl | rfl | rfl | rfl <;> assumption)) (by decide) ?_
  refine lv_lload_n hx hb dX0_ofTwo_159 rfl (lv_at hl 1 rfl) ?_
  refine lv_lconst (v := 0) hx hb dX0_ofTwo_160 (by decide) ?_
  refine W.lcmp hx hb dX0_ofTwo_161 ?_
  refine lv_if_ne (tgt := 171) hx hb dX0_ofTwo_162 (by decide) (fun c_26 => ?_) (fun c_26 => ?_)
  · skip
    refine lv_lconst (v := 1) hx hb dX0_ofTwo_171 (by decide) ?_
    refine lv_goto (tgt := 176) hx hb dX0_ofTwo_172 (by decide) ?_
    exact sk_lret hx hb hr hlocks hK hP hD hS rfl (Nat.le_of_ble_eq_true rfl) (Nat.le_of_ble_eq_true rfl) dX0_ofTwo_176
  · skip
    refine lv_lload_n hx hb dX0_ofTwo_165 rfl (lv_at hl 2 rfl) ?_
    refine lv_lconst (v := 0) hx hb dX0_ofTwo_166 (by decide) ?_
    refine W.lcmp hx hb dX0_ofTwo_167 ?_
    refine lv_if_eq (tgt := 175) hx hb dX0_ofTwo_168 (by decide) (fun c_27 => ?_) (fun c_27 => ?_)
    · skip
      refine lv_lconst (v := 0) hx hb dX0_ofTwo_175 (by decide) ?_
      exact sk_lret hx hb hr hlocks hK hP hD hS rfl (Nat.le_of_ble_eq_true rfl) (Nat.le_of_ble_eq_true rfl) dX0_ofTwo_176
    · skip
      refine lv_lconst (v := 1) hx hb dX0_ofTwo_171 (by decide) ?_
      refine lv_goto (tgt := 176) hx hb dX0_ofTwo_172 (by decide) ?_
      exact sk_lret hx hb hr hlocks hK hP hD hS rfl (Nat.le_of_ble_eq_true rfl) (Nat.le_of_ble_eq_true rfl) dX0_ofTwo_176
theorem dJ9_floorMod_f86c9_0 : decode cJ9_floorMod_f86c9 0 = .ok (.lload_n 0, 1) := by decide +kernel
theorem dJ9_floorMod_f86c9_1 : decode cJ9_floorMod_f86c9 1 = .ok (.lload_n 2, 1) := by decide +kernel
theorem dJ9_floorMod_f86c9_2 : decode cJ9_floorMod_f86c9 2 = .ok (.lrem, 1) := by decide +kernel
theorem dJ9_floorMod_f86c9_3 : decode cJ9_floorMod_f86c9 3 = .ok (.lstore 4, 2) := by decide +kernel
theorem dJ9_floorMod_f86c9_5 : decode cJ9_floorMod_f86c9 5 = .ok (.lload_n 0, 1) := by decide +kernel
theorem dJ9_floorMod_f86c9_6 : decode cJ9_floorMod_f86c9 6 = .ok (.lload_n 2, 1) := by decide +kernel
theorem dJ9_floorMod_f86c9_7 : decode cJ9_floorMod_f86c9 7 = .ok (.lxor, 1) := by decide +kernel
theorem dJ9_floorMod_f86c9_8 : decode cJ9_floorMod_f86c9 8 = .ok (.lconst 0, 1) := by decide +kernel
theorem dJ9_floorMod_f86c9_9 : decode cJ9_floorMod_f86c9 9 = .ok (.lcmp, 1) := by decide +kernel
theorem dJ9_floorMod_f86c9_10 : decode cJ9_floorMod_f86c9 10 = .ok (.ifCond .ge 15, 3) := by decide +kernel
theorem dJ9_floorMod_f86c9_25 : decode cJ9_floorMod_f86c9 25 = .ok (.lload 4, 2) := by decide +kernel
theorem dJ9_floorMod_f86c9_27 : decode cJ9_floorMod_f86c9 27 = .ok (.lreturn, 1) := by decide +kernel
theorem dJ9_floorMod_f86c9_13 : decode cJ9_floorMod_f86c9 13 = .ok (.lload 4, 2) := by decide +kernel
theorem dJ9_floorMod_f86c9_15 : decode cJ9_floorMod_f86c9 15 = .ok (.lconst 0, 1) := by decide +kernel
theorem dJ9_floorMod_f86c9_16 : decode cJ9_floorMod_f86c9 16 = .ok (.lcmp, 1) := by decide +kernel
theorem dJ9_floorMod_f86c9_17 : decode cJ9_floorMod_f86c9 17 = .ok (.ifCond .eq 8, 3) := by decide +kernel
theorem dJ9_floorMod_f86c9_20 : decode cJ9_floorMod_f86c9 20 = .ok (.lload 4, 2) := by decide +kernel
theorem dJ9_floorMod_f86c9_22 : decode cJ9_floorMod_f86c9 22 = .ok (.lload_n 2, 1) := by decide +kernel
theorem dJ9_floorMod_f86c9_23 : decode cJ9_floorMod_f86c9 23 = .ok (.ladd, 1) := by decide +kernel
theorem dJ9_floorMod_f86c9_24 : decode cJ9_floorMod_f86c9 24 = .ok (.lreturn, 1) := by decide +kernel
theorem w_4_12 : (Cond.code yJ9_floorMod_f86c9 cJ9_floorMod_f86c9 6 (some .long)) ∈ wsL_law := sk_mem (ck_4 _ (List.mem_of_getElem? (i := 12) rfl)) rfl
theorem dJ9_floorMod_1978a_0 : decode cJ9_floorMod_1978a 0 = .ok (.lload_n 0, 1) := by decide +kernel
theorem dJ9_floorMod_1978a_1 : decode cJ9_floorMod_1978a 1 = .ok (.iload_n 2, 1) := by decide +kernel
theorem dJ9_floorMod_1978a_2 : decode cJ9_floorMod_1978a 2 = .ok (.i2l, 1) := by decide +kernel
theorem dJ9_floorMod_1978a_3 : decode cJ9_floorMod_1978a 3 = .ok (.invokestatic 146, 3) := by decide +kernel
theorem dJ9_floorMod_1978a_6 : decode cJ9_floorMod_1978a 6 = .ok (.l2i, 1) := by decide +kernel
theorem dJ9_floorMod_1978a_7 : decode cJ9_floorMod_1978a 7 = .ok (.ireturn, 1) := by decide +kernel
theorem w_4_10 : (Cond.methodLink RJ9 146 yJ9_floorMod_f86c9) ∈ wsL_law := sk_mem (ck_4 _ (List.mem_of_getElem? (i := 10) rfl)) rfl
theorem w_4_11 : (Cond.static yJ9_floorMod_f86c9) ∈ wsL_law := sk_mem (ck_4 _ (List.mem_of_getElem? (i := 11) rfl)) rfl
theorem w_4_9 : (Cond.code yJ9_floorMod_1978a cJ9_floorMod_1978a 3 (some .int)) ∈ wsL_law := sk_mem (ck_4 _ (List.mem_of_getElem? (i := 9) rfl)) rfl
theorem dX0_run_0 : decode cX0_run 0 = .ok (.iconst 0, 1) := by decide +kernel
theorem dX0_run_1 : decode cX0_run 1 = .ok (.istore_n 3, 1) := by decide +kernel
theorem dX0_run_2 : decode cX0_run 2 = .ok (.iload_n 1, 1) := by decide +kernel
theorem dX0_run_3 : decode cX0_run 3 = .ok (.iconst 0, 1) := by decide +kernel
theorem dX0_run_4 : decode cX0_run 4 = .ok (.invokestatic 35, 3) := by decide +kernel
theorem dX0_run_7 : decode cX0_run 7 = .ok (.istore 4, 2) := by decide +kernel
theorem dX0_run_9 : decode cX0_run 9 = .ok (.iload 4, 2) := by decide +kernel
theorem dX0_run_11 : decode cX0_run 11 = .ok (.iload_n 2, 1) := by decide +kernel
theorem dX0_run_12 : decode cX0_run 12 = .ok (.if_icmp .ge 161, 3) := by decide +kernel
theorem dX0_run_173 : decode cX0_run 173 = .ok (.iload_n 3, 1) := by decide +kernel
theorem dX0_run_174 : decode cX0_run 174 = .ok (.ifCond .le 12, 3) := by decide +kernel
theorem dX0_run_186 : decode cX0_run 186 = .ok (.lconst 0, 1) := by decide +kernel
theorem dX0_run_187 : decode cX0_run 187 = .ok (.lreturn, 1) := by decide +kernel
theorem dX0_run_177 : decode cX0_run 177 = .ok (.aload_n 0, 1) := by decide +kernel
theorem dX0_run_178 : decode cX0_run 178 = .ok (.getfield 17, 3) := by decide +kernel
theorem dX0_run_181 : decode cX0_run 181 = .ok (.iconst 0, 1) := by decide +kernel
theorem dX0_run_182 : decode cX0_run 182 = .ok (.laload, 1) := by decide +kernel
theorem dX0_run_183 : decode cX0_run 183 = .ok (.goto 4, 3) := by decide +kernel
theorem dX0_run_15 : decode cX0_run 15 = .ok (.iload 4, 2) := by decide +kernel
theorem dX0_run_17 : decode cX0_run 17 = .ok (.aload_n 0, 1) := by decide +kernel
theorem dX0_run_18 : decode cX0_run 18 = .ok (.getfield 27, 3) := by decide +kernel
theorem dX0_run_21 : decode cX0_run 21 = .ok (.if_icmp .ge 152, 3) := by decide +kernel
theorem dX0_run_24 : decode cX0_run 24 = .ok (.aload_n 0, 1) := by decide +kernel
theorem dX0_run_25 : decode cX0_run 25 = .ok (.getfield 11, 3) := by decide +kernel
theorem dX0_run_28 : decode cX0_run 28 = .ok (.iload 4, 2) := by decide +kernel
theorem dX0_run_30 : decode cX0_run 30 = .ok (.iaload, 1) := by decide +kernel
theorem dX0_run_31 : decode cX0_run 31 = .ok (.istore 5, 2) := by decide +kernel
theorem dX0_run_33 : decode cX0_run 33 = .ok (.iload 5, 2) := by decide +kernel
theorem dX0_run_35 : decode cX0_run 35 = .ok (.sipush 30000, 3) := by decide +kernel
theorem dX0_run_38 : decode cX0_run 38 = .ok (.if_icmp .lt 41, 3) := by decide +kernel
theorem dX0_run_79 : decode cX0_run 79 = .ok (.iload 5, 2) := by decide +kernel
theorem dX0_run_81 : decode cX0_run 81 = .ok (.sipush 20000, 3) := by decide +kernel
theorem dX0_run_84 : decode cX0_run 84 = .ok (.if_icmp .lt 32, 3) := by decide +kernel
theorem dX0_run_116 : decode cX0_run 116 = .ok (.iload_n 3, 1) := by decide +kernel
theorem dX0_run_117 : decode cX0_run 117 = .ok (.aload_n 0, 1) := by decide +kernel
theorem dX0_run_118 : decode cX0_run 118 = .ok (.getfield 17, 3) := by decide +kernel
theorem dX0_run_121 : decode cX0_run 121 = .ok (.arraylength, 1) := by decide +kernel
theorem dX0_run_122 : decode cX0_run 122 = .ok (.if_icmp .ge 45, 3) := by decide +kernel
theorem dX0_run_167 : decode cX0_run 167 = .ok (.iinc 4 1, 3) := by decide +kernel
theorem dX0_run_170 : decode cX0_run 170 = .ok (.goto (-161), 3) := by decide +kernel
theorem dX0_run_125 : decode cX0_run 125 = .ok (.iload 5, 2) := by decide +kernel
theorem dX0_run_127 : decode cX0_run 127 = .ok (.sipush 10000, 3) := by decide +kernel
theorem dX0_run_130 : decode cX0_run 130 = .ok (.isub, 1) := by decide +kernel
theorem dX0_run_131 : decode cX0_run 131 = .ok (.istore 6, 2) := by decide +kernel
theorem dX0_run_133 : decode cX0_run 133 = .ok (.aload_n 0, 1) := by decide +kernel
theorem dX0_run_134 : decode cX0_run 134 = .ok (.getfield 17, 3) := by decide +kernel
theorem dX0_run_137 : decode cX0_run 137 = .ok (.iload_n 3, 1) := by decide +kernel
theorem dX0_run_138 : decode cX0_run 138 = .ok (.iload 6, 2) := by decide +kernel
theorem dX0_run_140 : decode cX0_run 140 = .ok (.ifCond .lt 20, 3) := by decide +kernel
theorem dX0_run_160 : decode cX0_run 160 = .ok (.iload 5, 2) := by decide +kernel
theorem dX0_run_162 : decode cX0_run 162 = .ok (.i2l, 1) := by decide +kernel
theorem dX0_run_163 : decode cX0_run 163 = .ok (.lastore, 1) := by decide +kernel
theorem dX0_run_164 : decode cX0_run 164 = .ok (.iinc 3 1, 3) := by decide +kernel
theorem dX0_run_143 : decode cX0_run 143 = .ok (.iload 6, 2) := by decide +kernel
theorem dX0_run_145 : decode cX0_run 145 = .ok (.bipush 9, 2) := by decide +kernel
theorem dX0_run_147 : decode cX0_run 147 = .ok (.if_icmp .ge 13, 3) := by decide +kernel
theorem dX0_run_150 : decode cX0_run 150 = .ok (.aload_n 0, 1) := by decide +kernel
theorem dX0_run_151 : decode cX0_run 151 = .ok (.getfield 21, 3) := by decide +kernel
theorem dX0_run_154 : decode cX0_run 154 = .ok (.iload 6, 2) := by decide +kernel
theorem dX0_run_156 : decode cX0_run 156 = .ok (.laload, 1) := by decide +kernel
theorem dX0_run_157 : decode cX0_run 157 = .ok (.goto 6, 3) := by decide +kernel
theorem dX0_run_87 : decode cX0_run 87 = .ok (.iload_n 3, 1) := by decide +kernel
theorem dX0_run_88 : decode cX0_run 88 = .ok (.ifCond .le 79, 3) := by decide +kernel
theorem dX0_run_91 : decode cX0_run 91 = .ok (.aload_n 0, 1) := by decide +kernel
theorem dX0_run_92 : decode cX0_run 92 = .ok (.getfield 17, 3) := by decide +kernel
theorem dX0_run_95 : decode cX0_run 95 = .ok (.iload_n 3, 1) := by decide +kernel
theorem dX0_run_96 : decode cX0_run 96 = .ok (.iconst 1, 1) := by decide +kernel
theorem dX0_run_97 : decode cX0_run 97 = .ok (.isub, 1) := by decide +kernel
theorem dX0_run_98 : decode cX0_run 98 = .ok (.aload_n 0, 1) := by decide +kernel
theorem dX0_run_99 : decode cX0_run 99 = .ok (.iload 5, 2) := by decide +kernel
theorem dX0_run_101 : decode cX0_run 101 = .ok (.aload_n 0, 1) := by decide +kernel
theorem dX0_run_102 : decode cX0_run 102 = .ok (.getfield 17, 3) := by decide +kernel
theorem dX0_run_105 : decode cX0_run 105 = .ok (.iload_n 3, 1) := by decide +kernel
theorem dX0_run_106 : decode cX0_run 106 = .ok (.iconst 1, 1) := by decide +kernel
theorem dX0_run_107 : decode cX0_run 107 = .ok (.isub, 1) := by decide +kernel
theorem dX0_run_108 : decode cX0_run 108 = .ok (.laload, 1) := by decide +kernel
theorem dX0_run_109 : decode cX0_run 109 = .ok (.invokevirtual 45, 3) := by decide +kernel
theorem dX0_run_112 : decode cX0_run 112 = .ok (.lastore, 1) := by decide +kernel
theorem dX0_run_113 : decode cX0_run 113 = .ok (.goto 54, 3) := by decide +kernel
theorem dX0_run_41 : decode cX0_run 41 = .ok (.iload_n 3, 1) := by decide +kernel
theorem dX0_run_42 : decode cX0_run 42 = .ok (.iconst 1, 1) := by decide +kernel
theorem dX0_run_43 : decode cX0_run 43 = .ok (.if_icmp .le 124, 3) := by decide +kernel
theorem dX0_run_46 : decode cX0_run 46 = .ok (.iinc 3 (-1), 3) := by decide +kernel
theorem dX0_run_49 : decode cX0_run 49 = .ok (.aload_n 0, 1) := by decide +kernel
theorem dX0_run_50 : decode cX0_run 50 = .ok (.getfield 17, 3) := by decide +kernel
theorem dX0_run_53 : decode cX0_run 53 = .ok (.iload_n 3, 1) := by decide +kernel
theorem dX0_run_54 : decode cX0_run 54 = .ok (.iconst 1, 1) := by decide +kernel
theorem dX0_run_55 : decode cX0_run 55 = .ok (.isub, 1) := by decide +kernel
theorem dX0_run_56 : decode cX0_run 56 = .ok (.iload 5, 2) := by decide +kernel
theorem dX0_run_58 : decode cX0_run 58 = .ok (.aload_n 0, 1) := by decide +kernel
theorem dX0_run_59 : decode cX0_run 59 = .ok (.getfield 17, 3) := by decide +kernel
theorem dX0_run_62 : decode cX0_run 62 = .ok (.iload_n 3, 1) := by decide +kernel
theorem dX0_run_63 : decode cX0_run 63 = .ok (.iconst 1, 1) := by decide +kernel
theorem dX0_run_64 : decode cX0_run 64 = .ok (.isub, 1) := by decide +kernel
theorem dX0_run_65 : decode cX0_run 65 = .ok (.laload, 1) := by decide +kernel
theorem dX0_run_66 : decode cX0_run 66 = .ok (.aload_n 0, 1) := by decide +kernel
theorem dX0_run_67 : decode cX0_run 67 = .ok (.getfield 17, 3) := by decide +kernel
theorem dX0_run_70 : decode cX0_run 70 = .ok (.iload_n 3, 1) := by decide +kernel
theorem dX0_run_71 : decode cX0_run 71 = .ok (.laload, 1) := by decide +kernel
theorem dX0_run_72 : decode cX0_run 72 = .ok (.invokestatic 41, 3) := by decide +kernel
theorem dX0_run_75 : decode cX0_run 75 = .ok (.lastore, 1) := by decide +kernel
theorem dX0_run_76 : decode cX0_run 76 = .ok (.goto 91, 3) := by decide +kernel
theorem w_3_224 : (Cond.methodLink RX0 35 Lib.Math.max.name) ∈ wsL_law := sk_mem (ck_3 _ (List.mem_of_getElem? (i := 224) rfl)) rfl
theorem w_1_37 : (Cond.static Lib.Math.max.name) ∈ wsL_law := sk_mem (ck_1 _ (List.mem_of_getElem? (i := 37) rfl)) rfl
theorem w_1_38 : (Cond.code Lib.Math.max.name Lib.Math.max.code 2 (some .int)) ∈ wsL_law := sk_mem (ck_1 _ (List.mem_of_getElem? (i := 38) rfl)) rfl
theorem w_1_130 : (Cond.fieldLink RX0 17 "SameKeeper$Code" "stack" "[J") ∈ wsL_law := sk_mem (ck_1 _ (List.mem_of_getElem? (i := 130) rfl)) rfl
theorem w_4_2 : (Cond.methodLink RX0 45 yX0_ofOne) ∈ wsL_law := sk_mem (ck_4 _ (List.mem_of_getElem? (i := 2) rfl)) rfl
theorem w_4_4 : (Cond.instanceMethod yX0_ofOne) ∈ wsL_law := sk_mem (ck_4 _ (List.mem_of_getElem? (i := 4) rfl)) rfl
theorem w_0_16 : (Cond.selects RX0 yX0_ofOne yX0_ofOne) ∈ wsL_law := sk_mem (ck_0 _ (List.mem_of_getElem? (i := 16) rfl)) rfl
theorem w_3_225 : (Cond.methodLink RX0 41 yX0_ofTwo) ∈ wsL_law := sk_mem (ck_3 _ (List.mem_of_getElem? (i := 225) rfl)) rfl
theorem w_3_226 : (Cond.static yX0_ofTwo) ∈ wsL_law := sk_mem (ck_3 _ (List.mem_of_getElem? (i := 226) rfl)) rfl
theorem w_3_223 : (Cond.code yX0_run cX0_run 7 (some .long)) ∈ wsL_law := sk_mem (ck_3 _ (List.mem_of_getElem? (i := 223) rfl)) rfl
set_option maxHeartbeats 4000000 in
set_option maxRecDepth 100000 in
theorem c_Code_run (l : Launch) (D : va_G) (cI cJ cC cZ cS : ClassId) (h0 : Nat) (k1 : Nat) (k2 : Nat) (k3 : Nat) (k4 : Nat) (cl : Nat) (mw : Nat) (f1 : Nat → Int32) (f2 : Nat → Int64) (f3 : Nat → Int64) (f4 : Nat → Int64) (a1 : Int32) (b1 : Int32) (hcl : cl ≤ 1600) (hmw : mw ≤ 1) : skM l yX0_run cX0_run 7 (some .long) 2 49 0 0 D (skT cI cJ cC cZ cS) [.ref h0, .int a1, .int b1] [(h0, .inr (0, [.ref k1, .ref k2, .ref k3, .ref k4, .int (nI cl), .int (nI mw)])), (k1, .inl (cI, 1600, .inl f1)), (k2, .inl (cJ, 64, .inr (.inl f2))), (k3, .inl (cJ, 9, .inr (.inl f3))), (k4, .inl (cJ, 10, .inr (.inl f4)))] (skL D (skT cI cJ cC cZ cS) (fun (r : Int64) (u : va_W) => ∃ (g2 : Nat → Int64), u = [(h0, .inr (0, [.ref k1, .ref k2, .ref k3, .ref k4, .int (nI cl), .int (nI mw)])), (k1, .inl (cI, 1600, .inl f1)), (k2, .inl (cJ, 64, .inr (.inl g2))), (k3, .inl (cJ, 9, .inr (.inl f3))), (k4, .inl (cJ, 10, .inr (.inl f4)))])) := by
  refine skM_of (by decide +kernel) (Nat.le_of_ble_eq_true rfl) ?_
  intro p e s m below meth c A ls E hP hD hl
  obtain ⟨hx, hb, hr, hml, hlocks, hin, hown, hts, hK, hA⟩ := E
  have hown : s.vm.findClass RX0 = some m.cls := hown
  have hS : va_S A s.heap s.heap [] := va_S.rf
  have hl : lv_has ls 7 [(0, .ref h0), (1, .int a1), (2, .int b1)] := hl
  refine lv_iconst (v := 0) hx hb dX0_run_0 (by decide) ?_
  refine lv_istore_n (lv' := [(3, .int 0), (0, .ref h0), (1, .int a1), (2, .int b1)]) hx hb dX0_run_1 rfl hl (by decide) rfl (fun ls hl => ?_)
  refine lv_iload_n hx hb dX0_run_2 rfl (lv_at hl 2 rfl) ?_
  refine lv_iconst (v := 0) hx hb dX0_run_3 (by decide) ?_
  refine va_mmax hx hb (by rw [hml]; exact hl.1.symm) hown (hts _ w_3_224) (hts _ w_1_37) (hts _ w_1_3) (hts _ w_1_38) (Nat.le_of_ble_eq_true rfl) (Nat.le_of_ble_eq_true rfl) (Nat.le_of_ble_eq_true rfl) (Nat.le_of_ble_eq_true rfl) dX0_run_4 ?_
  obtain ⟨k_1, hk_1, ek_1⟩ := nmax0 a1
  refine sk_top (nI k_1) ek_1 ?_
  refine lv_istore (lv' := [(4, .int (nI k_1)), (3, .int 0), (0, .ref h0), (1, .int a1), (2, .int b1)]) hx hb dX0_run_7 hl (by decide) rfl (fun ls hl => ?_)
  have lp_2 : ∀ (n_3 : Nat) (i : Nat) (tp : Nat) (fs : Nat → Int64) (H : Heap) (locs : List Loc) (ls : Array Slot), cl - i < n_3 → (tp ≤ 64) → (i < 2147483648) → va_P D vwCl [(h0, .inr (0, [.ref k1, .ref k2, .ref k3, .ref k4, .int (nI cl), .int (nI mw)])), (k1, .inl (cI, 1600, .inl f1)), (k2, .inl (cJ, 64, .inr (.inl fs))), (k3, .inl (cJ, 9, .inr (.inl f3))), (k4, .inl (cJ, 10, .inr (.inl f4)))] H → va_D A [(h0, .inr (0, [.ref k1, .ref k2, .ref k3, .ref k4, .int (nI cl), .int (nI mw)])), (k1, .inl (cI, 1600, .inl f1)), (k2, .inl (cJ, 64, .inr (.inl fs))), (k3, .inl (cJ, 9, .inr (.inl f3))), (k4, .inl (cJ, 10, .inr (.inl f4)))] → va_S A s.heap H locs → lv_has ls 7 [(4, .int (nI i)), (3, .int (nI tp)), (0, .ref h0), (1, .int a1), (2, .int b1)] → W p l e { frames := 2, cells := 0, slots := 0, locals := 49 } s m ([.ref h0, .int a1, .int b1] : List Value).toArray below meth c H locs 0 0 (MQ below (skL D (skT cI cJ cC cZ cS) (fun (r : Int64) (u : va_W) => ∃ (g2 : Nat → Int64), u = [(h0, .inr (0, [.ref k1, .ref k2, .ref k3, .ref k4, .int (nI cl), .int (nI mw)])), (k1, .inl (cI, 1600, .inl f1)), (k2, .inl (cJ, 64, .inr (.inl g2))), (k3, .inl (cJ, 9, .inr (.inl f3))), (k4, .inl (cJ, 10, .inr (.inl f4)))]) A) ([.ref h0, .int a1, .int b1] : List Value).toArray s 0 0 A) (F0 m 9 ls []) := by
    intro n_3
    induction n_3 with
    | zero => intro i tp fs H locs ls hm; exact absurd hm (Nat.not_lt_zero _)
    | succ n_3 ih_lp_2 =>
      intro i tp fs H locs ls hm htp hi hP hD hS hl
      refine lv_iload hx hb dX0_run_9 (lv_at hl 0 rfl) ?_
      refine lv_iload_n hx hb dX0_run_11 rfl (lv_at hl 4 rfl) ?_
      refine lv_icmp_ge (tgt := 173) hx hb dX0_run_12 (by decide) (fun c_4 => ?_) (fun c_4 => ?_)
      · skip
        refine lv_iload_n hx hb dX0_run_173 rfl (lv_at hl 1 rfl) ?_
        refine lv_if_le (tgt := 186) hx hb dX0_run_174 (by decide) (fun c_5 => ?_) (fun c_5 => ?_)
        · have c_5 : tp ≤ 0 := (nle tp 0 (by omega) (by omega)).mp c_5
          refine lv_lconst (v := 0) hx hb dX0_run_186 (by decide) ?_
          exact sk_lret hx hb hr hlocks hK hP hD hS (⟨fs, rfl⟩) (Nat.le_of_ble_eq_true rfl) (Nat.le_of_ble_eq_true rfl) dX0_run_187
        · have c_5 : ¬ (tp ≤ 0) := fun h => c_5 ((nle tp 0 (by omega) (by omega)).mpr h)
          refine lv_aload_n hx hb dX0_run_177 rfl (lv_at hl 2 rfl) ?_
          refine sk_get (v := .ref k2) (C := RX0) (T := TX0) (N := 6) hx hb hts inlX0 hown hK hP 0 rfl rfl 1 (by decide) w_1_130 rfl dX0_run_178 ?_
          refine lv_iconst (v := 0) hx hb dX0_run_181 (by decide) ?_
          refine va_lald hx hb hK.1 hP 2 1 rfl rfl (by unfold vp_in; decide) dX0_run_182 ?_
          refine lv_topl (fun v_6 ev_6 => ?_)
          refine lv_goto (tgt := 187) hx hb dX0_run_183 (by decide) ?_
          exact sk_lret hx hb hr hlocks hK hP hD hS (⟨fs, rfl⟩) (Nat.le_of_ble_eq_true rfl) (Nat.le_of_ble_eq_true rfl) dX0_run_187
      · skip
        refine lv_iload hx hb dX0_run_15 (lv_at hl 0 rfl) ?_
        refine lv_aload_n hx hb dX0_run_17 rfl (lv_at hl 2 rfl) ?_
        refine sk_get (v := .int (nI cl)) (C := RX0) (T := TX0) (N := 6) hx hb hts inlX0 hown hK hP 0 rfl rfl 4 (by decide) w_1_133 rfl dX0_run_18 ?_
        refine lv_icmp_ge (tgt := 173) hx hb dX0_run_21 (by decide) (fun c_7 => ?_) (fun c_7 => ?_)
        · have c_7 : cl ≤ i := (nle cl i (by omega) (by omega)).mp c_7
          refine lv_iload_n hx hb dX0_run_173 rfl (lv_at hl 1 rfl) ?_
          refine lv_if_le (tgt := 186) hx hb dX0_run_174 (by decide) (fun c_8 => ?_) (fun c_8 => ?_)
          · have c_8 : tp ≤ 0 := (nle tp 0 (by omega) (by omega)).mp c_8
            refine lv_lconst (v := 0) hx hb dX0_run_186 (by decide) ?_
            exact sk_lret hx hb hr hlocks hK hP hD hS (⟨fs, rfl⟩) (Nat.le_of_ble_eq_true rfl) (Nat.le_of_ble_eq_true rfl) dX0_run_187
          · have c_8 : ¬ (tp ≤ 0) := fun h => c_8 ((nle tp 0 (by omega) (by omega)).mpr h)
            refine lv_aload_n hx hb dX0_run_177 rfl (lv_at hl 2 rfl) ?_
            refine sk_get (v := .ref k2) (C := RX0) (T := TX0) (N := 6) hx hb hts inlX0 hown hK hP 0 rfl rfl 1 (by decide) w_1_130 rfl dX0_run_178 ?_
            refine lv_iconst (v := 0) hx hb dX0_run_181 (by decide) ?_
            refine va_lald hx hb hK.1 hP 2 1 rfl rfl (by unfold vp_in; decide) dX0_run_182 ?_
            refine lv_topl (fun v_9 ev_9 => ?_)
            refine lv_goto (tgt := 187) hx hb dX0_run_183 (by decide) ?_
            exact sk_lret hx hb hr hlocks hK hP hD hS (⟨fs, rfl⟩) (Nat.le_of_ble_eq_true rfl) (Nat.le_of_ble_eq_true rfl) dX0_run_187
        · have c_7 : ¬ (cl ≤ i) := fun h => c_7 ((nle cl i (by omega) (by omega)).mpr h)
          refine lv_aload_n hx hb dX0_run_24 rfl (lv_at hl 2 rfl) ?_
          refine sk_get (v := .ref k1) (C := RX0) (T := TX0) (N := 6) hx hb hts inlX0 hown hK hP 0 rfl rfl 0 (by decide) w_1_129 rfl dX0_run_25 ?_
          refine lv_iload hx hb dX0_run_28 (lv_at hl 0 rfl) ?_
          refine va_iald hx hb hK.1 hP 1 0 rfl rfl (vin i 1600 (by omega) (by omega)) dX0_run_30 ?_
          refine lv_topi (fun v_10 ev_10 => ?_)
          refine lv_istore (lv' := [(5, .int v_10), (4, .int (nI i)), (3, .int (nI tp)), (0, .ref h0), (1, .int a1), (2, .int b1)]) hx hb dX0_run_31 hl (by decide) rfl (fun ls hl => ?_)
          refine lv_iload hx hb dX0_run_33 (lv_at hl 0 rfl) ?_
          refine lv_sipush (v := 30000) hx hb dX0_run_35 (by decide) ?_
          refine lv_icmp_lt (tgt := 79) hx hb dX0_run_38 (by decide) (fun c_11 => ?_) (fun c_11 => ?_)
          · skip
            refine lv_iload hx hb dX0_run_79 (lv_at hl 0 rfl) ?_
            refine lv_sipush (v := 20000) hx hb dX0_run_81 (by decide) ?_
            refine lv_icmp_lt (tgt := 116) hx hb dX0_run_84 (by decide) (fun c_12 => ?_) (fun c_12 => ?_)
            · skip
              refine lv_iload_n hx hb dX0_run_116 rfl (lv_at hl 2 rfl) ?_
              refine lv_aload_n hx hb dX0_run_117 rfl (lv_at hl 3 rfl) ?_
              refine sk_get (v := .ref k2) (C := RX0) (T := TX0) (N := 6) hx hb hts inlX0 hown hK hP 0 rfl rfl 1 (by decide) w_1_130 rfl dX0_run_118 ?_
              refine va_alen (v := 64) hx hb hK.1 hP 2 1 rfl rfl rfl dX0_run_121 ?_
              refine lv_icmp_ge (tgt := 167) hx hb dX0_run_122 (by decide) (fun c_13 => ?_) (fun c_13 => ?_)
              · have c_13 : 64 ≤ tp := (nle 64 tp (by omega) (by omega)).mp c_13
                refine lv_iinc (v := nI (i + 1)) (lv' := [(4, .int (nI (i + 1))), (5, .int v_10), (3, .int (nI tp)), (0, .ref h0), (1, .int a1), (2, .int b1)]) hx hb dX0_run_167 hl (k := 1) rfl (ninc i 1 (by decide)) (by decide) rfl (fun ls hl => ?_)
                refine lv_goto (tgt := 9) hx hb dX0_run_170 (by decide) ?_
                exact ih_lp_2 (i + 1) tp fs _ _ _ (by omega) (by omega) (by omega) hP hD hS (lv_sub hl [0, 2, 3, 4, 5] rfl)
              · have c_13 : ¬ (64 ≤ tp) := fun h => c_13 ((nle 64 tp (by omega) (by omega)).mpr h)
                refine lv_iload hx hb dX0_run_125 (lv_at hl 0 rfl) ?_
                refine lv_sipush (v := 10000) hx hb dX0_run_127 (by decide) ?_
                refine lv_isub hx hb dX0_run_130 ?_
                refine lv_topi (fun v_14 ev_14 => ?_)
                refine lv_istore (lv' := [(6, .int v_14), (5, .int v_10), (4, .int (nI i)), (3, .int (nI tp)), (0, .ref h0), (1, .int a1), (2, .int b1)]) hx hb dX0_run_131 hl (by decide) rfl (fun ls hl => ?_)
                refine lv_aload_n hx hb dX0_run_133 rfl (lv_at hl 4 rfl) ?_
                refine sk_get (v := .ref k2) (C := RX0) (T := TX0) (N := 6) hx hb hts inlX0 hown hK hP 0 rfl rfl 1 (by decide) w_1_130 rfl dX0_run_134 ?_
                refine lv_iload_n hx hb dX0_run_137 rfl (lv_at hl 3 rfl) ?_
                refine lv_iload hx hb dX0_run_138 (lv_at hl 0 rfl) ?_
                refine lv_if_lt (tgt := 160) hx hb dX0_run_140 (by decide) (fun c_15 => ?_) (fun c_15 => ?_)
                · skip
                  refine lv_iload hx hb dX0_run_160 (lv_at hl 1 rfl) ?_
                  refine lv_i2l hx hb dX0_run_162 rfl ?_
                  refine sk_lastO (ws' := fun f_16 => [(h0, .inr (0, [.ref k1, .ref k2, .ref k3, .ref k4, .int (nI cl), .int (nI mw)])), (k1, .inl (cI, 1600, .inl f1)), (k2, .inl (cJ, 64, .inr (.inl f_16))), (k3, .inl (cJ, 9, .inr (.inl f3))), (k4, .inl (cJ, 10, .inr (.inl f4)))]) hx hb hK hP hD hS 2 1 rfl rfl (vin tp 64 (by omega) (by omega)) (fun _ => rfl) dX0_run_163 (fun f_16 H locs hP hD hS => ?_)
                  refine lv_iinc (v := nI (tp + 1)) (lv' := [(3, .int (nI (tp + 1))), (6, .int v_14), (5, .int v_10), (4, .int (nI i)), (0, .ref h0), (1, .int a1), (2, .int b1)]) hx hb dX0_run_164 hl (k := 3) rfl (ninc tp 1 (by decide)) (by decide) rfl (fun ls hl => ?_)
                  refine lv_iinc (v := nI (i + 1)) (lv' := [(4, .int (nI (i + 1))), (3, .int (nI (tp + 1))), (6, .int v_14), (5, .int v_10), (0, .ref h0), (1, .int a1), (2, .int b1)]) hx hb dX0_run_167 hl (k := 3) rfl (ninc i 1 (by decide)) (by decide) rfl (fun ls hl => ?_)
                  refine lv_goto (tgt := 9) hx hb dX0_run_170 (by decide) ?_
                  exact ih_lp_2 (i + 1) (tp + 1) f_16 _ _ _ (by omega) (by omega) (by omega) hP hD hS (lv_sub hl [0, 1, 4, 5, 6] rfl)
                · obtain ⟨k_17, hk_17, rfl⟩ := nof v_14 c_15
                  refine lv_iload hx hb dX0_run_143 (lv_at hl 0 rfl) ?_
                  refine lv_bipush (v := 9) hx hb dX0_run_145 (by decide) ?_
                  refine lv_icmp_ge (tgt := 160) hx hb dX0_run_147 (by decide) (fun c_18 => ?_) (fun c_18 => ?_)
                  · have c_18 : 9 ≤ k_17 := (nle 9 k_17 (by omega) (by omega)).mp c_18
                    refine lv_iload hx hb dX0_run_160 (lv_at hl 1 rfl) ?_
                    refine lv_i2l hx hb dX0_run_162 rfl ?_
                    refine sk_lastO (ws' := fun f_19 => [(h0, .inr (0, [.ref k1, .ref k2, .ref k3, .ref k4, .int (nI cl), .int (nI mw)])), (k1, .inl (cI, 1600, .inl f1)), (k2, .inl (cJ, 64, .inr (.inl f_19))), (k3, .inl (cJ, 9, .inr (.inl f3))), (k4, .inl (cJ, 10, .inr (.inl f4)))]) hx hb hK hP hD hS 2 1 rfl rfl (vin tp 64 (by omega) (by omega)) (fun _ => rfl) dX0_run_163 (fun f_19 H locs hP hD hS => ?_)
                    refine lv_iinc (v := nI (tp + 1)) (lv' := [(3, .int (nI (tp + 1))), (6, .int (nI k_17)), (5, .int v_10), (4, .int (nI i)), (0, .ref h0), (1, .int a1), (2, .int b1)]) hx hb dX0_run_164 hl (k := 3) rfl (ninc tp 1 (by decide)) (by decide) rfl (fun ls hl => ?_)
                    refine lv_iinc (v := nI (i + 1)) (lv' := [(4, .int (nI (i + 1))), (3, .int (nI (tp + 1))), (6, .int (nI k_17)), (5, .int v_10), (0, .ref h0), (1, .int a1), (2, .int b1)]) hx hb dX0_run_167 hl (k := 3) rfl (ninc i 1 (by decide)) (by decide) rfl (fun ls hl => ?_)
                    refine lv_goto (tgt := 9) hx hb dX0_run_170 (by decide) ?_
                    exact ih_lp_2 (i + 1) (tp + 1) f_19 _ _ _ (by omega) (by omega) (by omega) hP hD hS (lv_sub hl [0, 1, 4, 5, 6] rfl)
                  · have c_18 : ¬ (9 ≤ k_17) := fun h => c_18 ((nle 9 k_17 (by omega) (by omega)).mpr h)
                    refine lv_aload_n hx hb dX0_run_150 rfl (lv_at hl 4 rfl) ?_
                    refine sk_get (v := .ref k3) (C := RX0) (T := TX0) (N := 6) hx hb hts inlX0 hown hK hP 0 rfl rfl 2 (by decide) w_1_131 rfl dX0_run_151 ?_
                    refine lv_iload hx hb dX0_run_154 (lv_at hl 0 rfl) ?_
                    refine va_lald hx hb hK.1 hP 3 1 rfl rfl (vin k_17 9 (by omega) (by omega)) dX0_run_156 ?_
                    refine lv_topl (fun v_20 ev_20 => ?_)
                    refine lv_goto (tgt := 163) hx hb dX0_run_157 (by decide) ?_
                    refine sk_lastO (ws' := fun f_21 => [(h0, .inr (0, [.ref k1, .ref k2, .ref k3, .ref k4, .int (nI cl), .int (nI mw)])), (k1, .inl (cI, 1600, .inl f1)), (k2, .inl (cJ, 64, .inr (.inl f_21))), (k3, .inl (cJ, 9, .inr (.inl f3))), (k4, .inl (cJ, 10, .inr (.inl f4)))]) hx hb hK hP hD hS 2 1 rfl rfl (vin tp 64 (by omega) (by omega)) (fun _ => rfl) dX0_run_163 (fun f_21 H locs hP hD hS => ?_)
                    refine lv_iinc (v := nI (tp + 1)) (lv' := [(3, .int (nI (tp + 1))), (6, .int (nI k_17)), (5, .int v_10), (4, .int (nI i)), (0, .ref h0), (1, .int a1), (2, .int b1)]) hx hb dX0_run_164 hl (k := 3) rfl (ninc tp 1 (by decide)) (by decide) rfl (fun ls hl => ?_)
                    refine lv_iinc (v := nI (i + 1)) (lv' := [(4, .int (nI (i + 1))), (3, .int (nI (tp + 1))), (6, .int (nI k_17)), (5, .int v_10), (0, .ref h0), (1, .int a1), (2, .int b1)]) hx hb dX0_run_167 hl (k := 3) rfl (ninc i 1 (by decide)) (by decide) rfl (fun ls hl => ?_)
                    refine lv_goto (tgt := 9) hx hb dX0_run_170 (by decide) ?_
                    exact ih_lp_2 (i + 1) (tp + 1) f_21 _ _ _ (by omega) (by omega) (by omega) hP hD hS (lv_sub hl [0, 1, 4, 5, 6] rfl)
            · obtain ⟨k_22, hk_22, h1k_22, rfl⟩ := nofge v_10 20000 (by omega) c_12
              refine lv_iload_n hx hb dX0_run_87 rfl (lv_at hl 2 rfl) ?_
              refine lv_if_le (tgt := 167) hx hb dX0_run_88 (by decide) (fun c_23 => ?_) (fun c_23 => ?_)
              · have c_23 : tp ≤ 0 := (nle tp 0 (by omega) (by omega)).mp c_23
                refine lv_iinc (v := nI (i + 1)) (lv' := [(4, .int (nI (i + 1))), (5, .int (nI k_22)), (3, .int (nI tp)), (0, .ref h0), (1, .int a1), (2, .int b1)]) hx hb dX0_run_167 hl (k := 1) rfl (ninc i 1 (by decide)) (by decide) rfl (fun ls hl => ?_)
                refine lv_goto (tgt := 9) hx hb dX0_run_170 (by decide) ?_
                exact ih_lp_2 (i + 1) tp fs _ _ _ (by omega) (by omega) (by omega) hP hD hS (lv_sub hl [0, 2, 3, 4, 5] rfl)
              · have c_23 : ¬ (tp ≤ 0) := fun h => c_23 ((nle tp 0 (by omega) (by omega)).mpr h)
                refine lv_aload_n hx hb dX0_run_91 rfl (lv_at hl 3 rfl) ?_
                refine sk_get (v := .ref k2) (C := RX0) (T := TX0) (N := 6) hx hb hts inlX0 hown hK hP 0 rfl rfl 1 (by decide) w_1_130 rfl dX0_run_92 ?_
                refine lv_iload_n hx hb dX0_run_95 rfl (lv_at hl 2 rfl) ?_
                refine lv_iconst (v := 1) hx hb dX0_run_96 (by decide) ?_
                refine lv_isub hx hb dX0_run_97 ?_
                refine sk_top (nI (tp - 1)) (nsub tp 1 (by omega)) ?_
                refine lv_aload_n hx hb dX0_run_98 rfl (lv_at hl 3 rfl) ?_
                refine lv_iload hx hb dX0_run_99 (lv_at hl 0 rfl) ?_
                refine lv_aload_n hx hb dX0_run_101 rfl (lv_at hl 3 rfl) ?_
                refine sk_get (v := .ref k2) (C := RX0) (T := TX0) (N := 6) hx hb hts inlX0 hown hK hP 0 rfl rfl 1 (by decide) w_1_130 rfl dX0_run_102 ?_
                refine lv_iload_n hx hb dX0_run_105 rfl (lv_at hl 2 rfl) ?_
                refine lv_iconst (v := 1) hx hb dX0_run_106 (by decide) ?_
                refine lv_isub hx hb dX0_run_107 ?_
                refine sk_top (nI (tp - 1)) (nsub tp 1 (by omega)) ?_
                refine va_lald hx hb hK.1 hP 2 1 rfl rfl (vin (tp - 1) 64 (by omega) (by omega)) dX0_run_108 ?_
                refine lv_topl (fun v_24 ev_24 => ?_)
                refine sk_Vl (q0 := 0) (n := 2) (rest := [.int (nI (tp - 1)), .ref k2]) (wr := [(k1, .inl (cI, 1600, .inl f1)), (k2, .inl (cJ, 64, .inr (.inl fs))), (k3, .inl (cJ, 9, .inr (.inl f3)))]) ⟨hx, hb, hml, hown, hts⟩ hl.1 (c_Code_ofOne l D cI cJ cC cZ cS h0 k1 k2 k3 k4 cl mw f4 (nI k_22) v_24) w_4_2 w_4_4 w_0_16 w_1_8 w_4_5 (by decide +kernel) ⟨⟨(Nat.le_of_ble_eq_true rfl), (Nat.le_of_ble_eq_true rfl)⟩, (Nat.le_of_ble_eq_true rfl), (Nat.le_of_ble_eq_true rfl)⟩ hK hP hD hS hA [0, 4] [1, 2, 3] rfl rfl (by decide +kernel) (by decide +kernel) (by decide +kernel) rfl rfl rfl rfl (Nat.le_of_ble_eq_true rfl) dX0_run_109 (fun r_25 u H locs hw hP hD hS => ?_)
                obtain rfl := hw
                have hP : va_P D vwCl [(k1, .inl (cI, 1600, .inl f1)), (k2, .inl (cJ, 64, .inr (.inl fs))), (k3, .inl (cJ, 9, .inr (.inl f3))), (h0, .inr (0, [.ref k1, .ref k2, .ref k3, .ref k4, .int (nI cl), .int (nI mw)])), (k4, .inl (cJ, 10, .inr (.inl f4)))] H := hP
                have hD : va_D A [(k1, .inl (cI, 1600, .inl f1)), (k2, .inl (cJ, 64, .inr (.inl fs))), (k3, .inl (cJ, 9, .inr (.inl f3))), (h0, .inr (0, [.ref k1, .ref k2, .ref k3, .ref k4, .int (nI cl), .int (nI mw)])), (k4, .inl (cJ, 10, .inr (.inl f4)))] := hD
                refine sk_lastO (ws' := fun f_26 => [(k1, .inl (cI, 1600, .inl f1)), (k2, .inl (cJ, 64, .inr (.inl f_26))), (k3, .inl (cJ, 9, .inr (.inl f3))), (h0, .inr (0, [.ref k1, .ref k2, .ref k3, .ref k4, .int (nI cl), .int (nI mw)])), (k4, .inl (cJ, 10, .inr (.inl f4)))]) hx hb hK hP hD hS 1 1 rfl rfl (vin (tp - 1) 64 (by omega) (by omega)) (fun _ => rfl) dX0_run_112 (fun f_26 H locs hP hD hS => ?_)
                refine lv_goto (tgt := 167) hx hb dX0_run_113 (by decide) ?_
                refine lv_iinc (v := nI (i + 1)) (lv' := [(4, .int (nI (i + 1))), (5, .int (nI k_22)), (3, .int (nI tp)), (0, .ref h0), (1, .int a1), (2, .int b1)]) hx hb dX0_run_167 hl (k := 1) rfl (ninc i 1 (by decide)) (by decide) rfl (fun ls hl => ?_)
                refine lv_goto (tgt := 9) hx hb dX0_run_170 (by decide) ?_
                have hP := hP.sub (ws' := [(h0, .inr (0, [.ref k1, .ref k2, .ref k3, .ref k4, .int (nI cl), .int (nI mw)])), (k1, .inl (cI, 1600, .inl f1)), (k2, .inl (cJ, 64, .inr (.inl f_26))), (k3, .inl (cJ, 9, .inr (.inl f3))), (k4, .inl (cJ, 10, .inr (.inl f4)))]) [3, 0, 1, 2, 4] rfl
                have hD := hD.sub (ws' := [(h0, .inr (0, [.ref k1, .ref k2, .ref k3, .ref k4, .int (nI cl), .int (nI mw)])), (k1, .inl (cI, 1600, .inl f1)), (k2, .inl (cJ, 64, .inr (.inl f_26))), (k3, .inl (cJ, 9, .inr (.inl f3))), (k4, .inl (cJ, 10, .inr (.inl f4)))]) [3, 0, 1, 2, 4] (by decide +kernel) rfl
                exact ih_lp_2 (i + 1) tp f_26 _ _ _ (by omega) (by omega) (by omega) hP hD hS (lv_sub hl [0, 2, 3, 4, 5] rfl)
          · obtain ⟨k_27, hk_27, h1k_27, rfl⟩ := nofge v_10 30000 (by omega) c_11
            refine lv_iload_n hx hb dX0_run_41 rfl (lv_at hl 2 rfl) ?_
            refine lv_iconst (v := 1) hx hb dX0_run_42 (by decide) ?_
            refine lv_icmp_le (tgt := 167) hx hb dX0_run_43 (by decide) (fun c_28 => ?_) (fun c_28 => ?_)
            · have c_28 : tp ≤ 1 := (nle tp 1 (by omega) (by omega)).mp c_28
              refine lv_iinc (v := nI (i + 1)) (lv' := [(4, .int (nI (i + 1))), (5, .int (nI k_27)), (3, .int (nI tp)), (0, .ref h0), (1, .int a1), (2, .int b1)]) hx hb dX0_run_167 hl (k := 1) rfl (ninc i 1 (by decide)) (by decide) rfl (fun ls hl => ?_)
              refine lv_goto (tgt := 9) hx hb dX0_run_170 (by decide) ?_
              exact ih_lp_2 (i + 1) tp fs _ _ _ (by omega) (by omega) (by omega) hP hD hS (lv_sub hl [0, 2, 3, 4, 5] rfl)
            · have c_28 : ¬ (tp ≤ 1) := fun h => c_28 ((nle tp 1 (by omega) (by omega)).mpr h)
              refine lv_iinc (v := nI (tp - 1)) (lv' := [(3, .int (nI (tp - 1))), (5, .int (nI k_27)), (4, .int (nI i)), (0, .ref h0), (1, .int a1), (2, .int b1)]) hx hb dX0_run_46 hl (k := 2) rfl (ndec1 tp (by omega)) (by decide) rfl (fun ls hl => ?_)
              refine lv_aload_n hx hb dX0_run_49 rfl (lv_at hl 3 rfl) ?_
              refine sk_get (v := .ref k2) (C := RX0) (T := TX0) (N := 6) hx hb hts inlX0 hown hK hP 0 rfl rfl 1 (by decide) w_1_130 rfl dX0_run_50 ?_
              refine lv_iload_n hx hb dX0_run_53 rfl (lv_at hl 0 rfl) ?_
              refine lv_iconst (v := 1) hx hb dX0_run_54 (by decide) ?_
              refine lv_isub hx hb dX0_run_55 ?_
              refine sk_top (nI (tp - 1 - 1)) (nsub (tp - 1) 1 (by omega)) ?_
              refine lv_iload hx hb dX0_run_56 (lv_at hl 1 rfl) ?_
              refine lv_aload_n hx hb dX0_run_58 rfl (lv_at hl 3 rfl) ?_
              refine sk_get (v := .ref k2) (C := RX0) (T := TX0) (N := 6) hx hb hts inlX0 hown hK hP 0 rfl rfl 1 (by decide) w_1_130 rfl dX0_run_59 ?_
              refine lv_iload_n hx hb dX0_run_62 rfl (lv_at hl 0 rfl) ?_
              refine lv_iconst (v := 1) hx hb dX0_run_63 (by decide) ?_
              refine lv_isub hx hb dX0_run_64 ?_
              refine sk_top (nI (tp - 1 - 1)) (nsub (tp - 1) 1 (by omega)) ?_
              refine va_lald hx hb hK.1 hP 2 1 rfl rfl (vin (tp - 1 - 1) 64 (by omega) (by omega)) dX0_run_65 ?_
              refine lv_topl (fun v_29 ev_29 => ?_)
              refine lv_aload_n hx hb dX0_run_66 rfl (lv_at hl 3 rfl) ?_
              refine sk_get (v := .ref k2) (C := RX0) (T := TX0) (N := 6) hx hb hts inlX0 hown hK hP 0 rfl rfl 1 (by decide) w_1_130 rfl dX0_run_67 ?_
              refine lv_iload_n hx hb dX0_run_70 rfl (lv_at hl 0 rfl) ?_
              refine va_lald hx hb hK.1 hP 2 1 rfl rfl (vin (tp - 1) 64 (by omega) (by omega)) dX0_run_71 ?_
              refine lv_topl (fun v_30 ev_30 => ?_)
              refine sk_Sl (n := 3) (rest := [.int (nI (tp - 1 - 1)), .ref k2]) (wr := [(h0, .inr (0, [.ref k1, .ref k2, .ref k3, .ref k4, .int (nI cl), .int (nI mw)])), (k1, .inl (cI, 1600, .inl f1)), (k2, .inl (cJ, 64, .inr (.inl fs))), (k3, .inl (cJ, 9, .inr (.inl f3))), (k4, .inl (cJ, 10, .inr (.inl f4)))]) ⟨hx, hb, hml, hown, hts⟩ hl.1 (c_ofTwo l D cI cJ cC cZ cS (nI k_27) v_29 v_30) w_3_225 w_3_226 w_1_8 w_3_227 (by decide +kernel) ⟨⟨(Nat.le_of_ble_eq_true rfl), (Nat.le_of_ble_eq_true rfl)⟩, (Nat.le_of_ble_eq_true rfl), (Nat.le_of_ble_eq_true rfl)⟩ hK hP hD hS hA [] [0, 1, 2, 3, 4] rfl rfl (by decide +kernel) (by decide +kernel) (by decide +kernel) rfl rfl (Nat.le_of_ble_eq_true rfl) dX0_run_72 (fun r_31 u H locs hw hP hD hS => ?_)
              obtain rfl := hw
              have hP : va_P D vwCl [(h0, .inr (0, [.ref k1, .ref k2, .ref k3, .ref k4, .int (nI cl), .int (nI mw)])), (k1, .inl (cI, 1600, .inl f1)), (k2, .inl (cJ, 64, .inr (.inl fs))), (k3, .inl (cJ, 9, .inr (.inl f3))), (k4, .inl (cJ, 10, .inr (.inl f4)))] H := hP
              have hD : va_D A [(h0, .inr (0, [.ref k1, .ref k2, .ref k3, .ref k4, .int (nI cl), .int (nI mw)])), (k1, .inl (cI, 1600, .inl f1)), (k2, .inl (cJ, 64, .inr (.inl fs))), (k3, .inl (cJ, 9, .inr (.inl f3))), (k4, .inl (cJ, 10, .inr (.inl f4)))] := hD
              refine sk_lastO (ws' := fun f_32 => [(h0, .inr (0, [.ref k1, .ref k2, .ref k3, .ref k4, .int (nI cl), .int (nI mw)])), (k1, .inl (cI, 1600, .inl f1)), (k2, .inl (cJ, 64, .inr (.inl f_32))), (k3, .inl (cJ, 9, .inr (.inl f3))), (k4, .inl (cJ, 10, .inr (.inl f4)))]) hx hb hK hP hD hS 2 1 rfl rfl (vin (tp - 1 - 1) 64 (by omega) (by omega)) (fun _ => rfl) dX0_run_75 (fun f_32 H locs hP hD hS => ?_)
              refine lv_goto (tgt := 167) hx hb dX0_run_76 (by decide) ?_
              refine lv_iinc (v := nI (i + 1)) (lv' := [(4, .int (nI (i + 1))), (3, .int (nI (tp - 1))), (5, .int (nI k_27)), (0, .ref h0), (1, .int a1), (2, .int b1)]) hx hb dX0_run_167 hl (k := 2) rfl (ninc i 1 (by decide)) (by decide) rfl (fun ls hl => ?_)
              refine lv_goto (tgt := 9) hx hb dX0_run_170 (by decide) ?_
              exact ih_lp_2 (i + 1) (tp - 1) f_32 _ _ _ (by omega) (by omega) (by omega) hP hD hS (lv_sub hl [0, 1, 3, 4, 5] rfl)
  exact lp_2 (cl - k_1 + 1) k_1 0 f2 _ _ _ (Nat.lt_succ_self _) (by omega) (by omega) hP hD hS (lv_sub hl [0, 1, 2, 3, 4] rfl)
theorem dX7_copy_0 : decode cX7_copy 0 = .ok (.aload_n 0, 1) := by decide +kernel
theorem dX7_copy_1 : decode cX7_copy 1 = .ok (.aload_n 1, 1) := by decide +kernel
theorem dX7_copy_2 : decode cX7_copy 2 = .ok (.getfield 18, 3) := by decide +kernel
theorem dX7_copy_5 : decode cX7_copy 5 = .ok (.putfield 18, 3) := by decide +kernel
theorem dX7_copy_8 : decode cX7_copy 8 = .ok (.aload_n 0, 1) := by decide +kernel
theorem dX7_copy_9 : decode cX7_copy 9 = .ok (.aload_n 1, 1) := by decide +kernel
theorem dX7_copy_10 : decode cX7_copy 10 = .ok (.getfield 22, 3) := by decide +kernel
theorem dX7_copy_13 : decode cX7_copy 13 = .ok (.putfield 22, 3) := by decide +kernel
theorem dX7_copy_16 : decode cX7_copy 16 = .ok (.aload_n 0, 1) := by decide +kernel
theorem dX7_copy_17 : decode cX7_copy 17 = .ok (.aload_n 1, 1) := by decide +kernel
theorem dX7_copy_18 : decode cX7_copy 18 = .ok (.getfield 25, 3) := by decide +kernel
theorem dX7_copy_21 : decode cX7_copy 21 = .ok (.putfield 25, 3) := by decide +kernel
theorem dX7_copy_24 : decode cX7_copy 24 = .ok (.aload_n 0, 1) := by decide +kernel
theorem dX7_copy_25 : decode cX7_copy 25 = .ok (.aload_n 1, 1) := by decide +kernel
theorem dX7_copy_26 : decode cX7_copy 26 = .ok (.getfield 28, 3) := by decide +kernel
theorem dX7_copy_29 : decode cX7_copy 29 = .ok (.putfield 28, 3) := by decide +kernel
theorem dX7_copy_32 : decode cX7_copy 32 = .ok (.aload_n 0, 1) := by decide +kernel
theorem dX7_copy_33 : decode cX7_copy 33 = .ok (.aload_n 1, 1) := by decide +kernel
theorem dX7_copy_34 : decode cX7_copy 34 = .ok (.getfield 31, 3) := by decide +kernel
theorem dX7_copy_37 : decode cX7_copy 37 = .ok (.putfield 31, 3) := by decide +kernel
theorem dX7_copy_40 : decode cX7_copy 40 = .ok (.aload_n 1, 1) := by decide +kernel
theorem dX7_copy_41 : decode cX7_copy 41 = .ok (.getfield 9, 3) := by decide +kernel
theorem dX7_copy_44 : decode cX7_copy 44 = .ok (.iconst 0, 1) := by decide +kernel
theorem dX7_copy_45 : decode cX7_copy 45 = .ok (.aload_n 0, 1) := by decide +kernel
theorem dX7_copy_46 : decode cX7_copy 46 = .ok (.getfield 9, 3) := by decide +kernel
theorem dX7_copy_49 : decode cX7_copy 49 = .ok (.iconst 0, 1) := by decide +kernel
theorem dX7_copy_50 : decode cX7_copy 50 = .ok (.bipush 9, 2) := by decide +kernel
theorem dX7_copy_52 : decode cX7_copy 52 = .ok (.invokestatic 40, 3) := by decide +kernel
theorem dX7_copy_55 : decode cX7_copy 55 = .ok (.aload_n 1, 1) := by decide +kernel
theorem dX7_copy_56 : decode cX7_copy 56 = .ok (.getfield 15, 3) := by decide +kernel
theorem dX7_copy_59 : decode cX7_copy 59 = .ok (.iconst 0, 1) := by decide +kernel
theorem dX7_copy_60 : decode cX7_copy 60 = .ok (.aload_n 0, 1) := by decide +kernel
theorem dX7_copy_61 : decode cX7_copy 61 = .ok (.getfield 15, 3) := by decide +kernel
theorem dX7_copy_64 : decode cX7_copy 64 = .ok (.iconst 0, 1) := by decide +kernel
theorem dX7_copy_65 : decode cX7_copy 65 = .ok (.bipush 9, 2) := by decide +kernel
theorem dX7_copy_67 : decode cX7_copy 67 = .ok (.invokestatic 40, 3) := by decide +kernel
theorem dX7_copy_70 : decode cX7_copy 70 = .ok (.return_, 1) := by decide +kernel
theorem w_1_238 : (Cond.fieldLink RX7 18 "SameKeeper$State" "days" "I") ∈ wsL_law := sk_mem (ck_1 _ (List.mem_of_getElem? (i := 238) rfl)) rfl
theorem w_2_3 : (Cond.fieldLink RX7 22 "SameKeeper$State" "week" "I") ∈ wsL_law := sk_mem (ck_2 _ (List.mem_of_getElem? (i := 3) rfl)) rfl
theorem w_2_8 : (Cond.fieldLink RX7 25 "SameKeeper$State" "mood" "I") ∈ wsL_law := sk_mem (ck_2 _ (List.mem_of_getElem? (i := 8) rfl)) rfl
theorem w_2_11 : (Cond.fieldLink RX7 28 "SameKeeper$State" "mute" "I") ∈ wsL_law := sk_mem (ck_2 _ (List.mem_of_getElem? (i := 11) rfl)) rfl
theorem w_2_13 : (Cond.fieldLink RX7 31 "SameKeeper$State" "kept" "I") ∈ wsL_law := sk_mem (ck_2 _ (List.mem_of_getElem? (i := 13) rfl)) rfl
theorem w_1_230 : (Cond.fieldLink RX7 9 "SameKeeper$State" "barge" "[I") ∈ wsL_law := sk_mem (ck_1 _ (List.mem_of_getElem? (i := 230) rfl)) rfl
theorem w_3_152 : (Cond.methodLink RX7 40 arraycopyName) ∈ wsL_law := sk_mem (ck_3 _ (List.mem_of_getElem? (i := 152) rfl)) rfl
theorem w_3_154 : (Cond.native arraycopyName) ∈ wsL_law := sk_mem (ck_3 _ (List.mem_of_getElem? (i := 154) rfl)) rfl
theorem w_3_153 : (Cond.static arraycopyName) ∈ wsL_law := sk_mem (ck_3 _ (List.mem_of_getElem? (i := 153) rfl)) rfl
theorem w_1_20 : (Cond.initialized "java/lang/System") ∈ wsL_law := sk_mem (ck_1 _ (List.mem_of_getElem? (i := 20) rfl)) rfl
theorem w_1_234 : (Cond.fieldLink RX7 15 "SameKeeper$State" "wet" "[I") ∈ wsL_law := sk_mem (ck_1 _ (List.mem_of_getElem? (i := 234) rfl)) rfl
theorem w_4_135 : (Cond.code yX7_copy cX7_copy 2 none) ∈ wsL_law := sk_mem (ck_4 _ (List.mem_of_getElem? (i := 135) rfl)) rfl
theorem dX7_begin_0 : decode cX7_begin 0 = .ok (.aload_n 0, 1) := by decide +kernel
theorem dX7_begin_1 : decode cX7_begin 1 = .ok (.aload_n 1, 1) := by decide +kernel
theorem dX7_begin_2 : decode cX7_begin 2 = .ok (.getfield 34, 3) := by decide +kernel
theorem dX7_begin_5 : decode cX7_begin 5 = .ok (.putfield 18, 3) := by decide +kernel
theorem dX7_begin_8 : decode cX7_begin 8 = .ok (.aload_n 0, 1) := by decide +kernel
theorem dX7_begin_9 : decode cX7_begin 9 = .ok (.iconst 0, 1) := by decide +kernel
theorem dX7_begin_10 : decode cX7_begin 10 = .ok (.putfield 22, 3) := by decide +kernel
theorem dX7_begin_13 : decode cX7_begin 13 = .ok (.aload_n 0, 1) := by decide +kernel
theorem dX7_begin_14 : decode cX7_begin 14 = .ok (.aload_n 1, 1) := by decide +kernel
theorem dX7_begin_15 : decode cX7_begin 15 = .ok (.getfield 37, 3) := by decide +kernel
theorem dX7_begin_18 : decode cX7_begin 18 = .ok (.putfield 25, 3) := by decide +kernel
theorem dX7_begin_21 : decode cX7_begin 21 = .ok (.aload_n 0, 1) := by decide +kernel
theorem dX7_begin_22 : decode cX7_begin 22 = .ok (.aload_n 1, 1) := by decide +kernel
theorem dX7_begin_23 : decode cX7_begin 23 = .ok (.getfield 38, 3) := by decide +kernel
theorem dX7_begin_26 : decode cX7_begin 26 = .ok (.putfield 28, 3) := by decide +kernel
theorem dX7_begin_29 : decode cX7_begin 29 = .ok (.aload_n 0, 1) := by decide +kernel
theorem dX7_begin_30 : decode cX7_begin 30 = .ok (.iconst 0, 1) := by decide +kernel
theorem dX7_begin_31 : decode cX7_begin 31 = .ok (.putfield 31, 3) := by decide +kernel
theorem dX7_begin_34 : decode cX7_begin 34 = .ok (.aload_n 1, 1) := by decide +kernel
theorem dX7_begin_35 : decode cX7_begin 35 = .ok (.getfield 39, 3) := by decide +kernel
theorem dX7_begin_38 : decode cX7_begin 38 = .ok (.iconst 0, 1) := by decide +kernel
theorem dX7_begin_39 : decode cX7_begin 39 = .ok (.aload_n 0, 1) := by decide +kernel
theorem dX7_begin_40 : decode cX7_begin 40 = .ok (.getfield 9, 3) := by decide +kernel
theorem dX7_begin_43 : decode cX7_begin 43 = .ok (.iconst 0, 1) := by decide +kernel
theorem dX7_begin_44 : decode cX7_begin 44 = .ok (.bipush 9, 2) := by decide +kernel
theorem dX7_begin_46 : decode cX7_begin 46 = .ok (.invokestatic 40, 3) := by decide +kernel
theorem dX7_begin_49 : decode cX7_begin 49 = .ok (.aload_n 1, 1) := by decide +kernel
theorem dX7_begin_50 : decode cX7_begin 50 = .ok (.getfield 46, 3) := by decide +kernel
theorem dX7_begin_53 : decode cX7_begin 53 = .ok (.iconst 0, 1) := by decide +kernel
theorem dX7_begin_54 : decode cX7_begin 54 = .ok (.aload_n 0, 1) := by decide +kernel
theorem dX7_begin_55 : decode cX7_begin 55 = .ok (.getfield 15, 3) := by decide +kernel
theorem dX7_begin_58 : decode cX7_begin 58 = .ok (.iconst 0, 1) := by decide +kernel
theorem dX7_begin_59 : decode cX7_begin 59 = .ok (.bipush 9, 2) := by decide +kernel
theorem dX7_begin_61 : decode cX7_begin 61 = .ok (.invokestatic 40, 3) := by decide +kernel
theorem dX7_begin_64 : decode cX7_begin 64 = .ok (.return_, 1) := by decide +kernel
theorem w_1_189 : (Cond.fieldLink RX7 34 "SameKeeper$Lock" "days" "I") ∈ wsL_law := sk_mem (ck_1 _ (List.mem_of_getElem? (i := 189) rfl)) rfl
theorem w_1_192 : (Cond.fieldLink RX7 37 "SameKeeper$Lock" "mood" "I") ∈ wsL_law := sk_mem (ck_1 _ (List.mem_of_getElem? (i := 192) rfl)) rfl
theorem w_1_195 : (Cond.fieldLink RX7 38 "SameKeeper$Lock" "mute" "I") ∈ wsL_law := sk_mem (ck_1 _ (List.mem_of_getElem? (i := 195) rfl)) rfl
theorem w_1_179 : (Cond.fieldLink RX7 39 "SameKeeper$Lock" "barge" "[I") ∈ wsL_law := sk_mem (ck_1 _ (List.mem_of_getElem? (i := 179) rfl)) rfl
theorem w_1_182 : (Cond.fieldLink RX7 46 "SameKeeper$Lock" "wet" "[I") ∈ wsL_law := sk_mem (ck_1 _ (List.mem_of_getElem? (i := 182) rfl)) rfl
theorem w_3_151 : (Cond.code yX7_begin cX7_begin 2 none) ∈ wsL_law := sk_mem (ck_3 _ (List.mem_of_getElem? (i := 151) rfl)) rfl
theorem dX7_isMute_0 : decode cX7_isMute 0 = .ok (.aload_n 0, 1) := by decide +kernel
theorem dX7_isMute_1 : decode cX7_isMute 1 = .ok (.getfield 28, 3) := by decide +kernel
theorem dX7_isMute_4 : decode cX7_isMute 4 = .ok (.iload_n 1, 1) := by decide +kernel
theorem dX7_isMute_5 : decode cX7_isMute 5 = .ok (.ishr, 1) := by decide +kernel
theorem dX7_isMute_6 : decode cX7_isMute 6 = .ok (.iconst 1, 1) := by decide +kernel
theorem dX7_isMute_7 : decode cX7_isMute 7 = .ok (.iand, 1) := by decide +kernel
theorem dX7_isMute_8 : decode cX7_isMute 8 = .ok (.iconst 1, 1) := by decide +kernel
theorem dX7_isMute_9 : decode cX7_isMute 9 = .ok (.if_icmp .ne 7, 3) := by decide +kernel
theorem dX7_isMute_16 : decode cX7_isMute 16 = .ok (.iconst 0, 1) := by decide +kernel
theorem dX7_isMute_17 : decode cX7_isMute 17 = .ok (.ireturn, 1) := by decide +kernel
theorem dX7_isMute_12 : decode cX7_isMute 12 = .ok (.iconst 1, 1) := by decide +kernel
theorem dX7_isMute_13 : decode cX7_isMute 13 = .ok (.goto 4, 3) := by decide +kernel
theorem w_3_197 : (Cond.code yX7_isMute cX7_isMute 2 (some .boolean)) ∈ wsL_law := sk_mem (ck_3 _ (List.mem_of_getElem? (i := 197) rfl)) rfl
set_option maxHeartbeats 4000000 in
set_option maxRecDepth 100000 in
theorem c_State_isMute (l : Launch) (D : va_G) (cI cJ cC cZ cS : ClassId) (h0 : Nat) (k1 : Nat) (k2 : Nat) (dy : Nat) (mo : Nat) (wk : Int32) (mu : Int32) (ke : Int32) (d : Int32)  : skM l yX7_isMute cX7_isMute 2 (some .boolean) 0 0 0 0 D (skT cI cJ cC cZ cS) [.ref h0, .int d] [(h0, .inr (7, [.ref k1, .ref k2, .int (nI dy), .int wk, .int (nI mo), .int mu, .int ke]))] (skI D (skT cI cJ cC cZ cS) (fun (r : Int32) (u : va_W) => ∃ (b : Nat), b ≤ 1 ∧ r = nI b ∧ u = [(h0, .inr (7, [.ref k1, .ref k2, .int (nI dy), .int wk, .int (nI mo), .int mu, .int ke]))])) := by
  refine skM_of (by decide +kernel) (Nat.le_of_ble_eq_true rfl) ?_
  intro p e s m below meth c A ls E hP hD hl
  obtain ⟨hx, hb, hr, hml, hlocks, hin, hown, hts, hK, hA⟩ := E
  have hown : s.vm.findClass RX7 = some m.cls := hown
  have hS : va_S A s.heap s.heap [] := va_S.rf
  have hl : lv_has ls 2 [(0, .ref h0), (1, .int d)] := hl
  refine lv_aload_n hx hb dX7_isMute_0 rfl (lv_at hl 0 rfl) ?_
  refine sk_get (v := .int mu) (C := RX7) (T := TX7) (N := 7) hx hb hts inlX7 hown hK hP 0 rfl rfl 5 (by decide) w_2_11 rfl dX7_isMute_1 ?_
  refine lv_iload_n hx hb dX7_isMute_4 rfl (lv_at hl 1 rfl) ?_
  refine lv_ishr hx hb dX7_isMute_5 ?_
  refine lv_topi (fun v_1 ev_1 => ?_)
  refine lv_iconst (v := 1) hx hb dX7_isMute_6 (by decide) ?_
  refine lv_iand hx hb dX7_isMute_7 ?_
  refine lv_topi (fun v_2 ev_2 => ?_)
  refine lv_iconst (v := 1) hx hb dX7_isMute_8 (by decide) ?_
  refine lv_icmp_ne (tgt := 16) hx hb dX7_isMute_9 (by decide) (fun c_3 => ?_) (fun c_3 => ?_)
  · skip
    refine lv_iconst (v := 0) hx hb dX7_isMute_16 (by decide) ?_
    exact sk_iret hx hb hr rfl hlocks hK hP hD hS (⟨0, by omega, rfl, rfl⟩) (Nat.le_of_ble_eq_true rfl) (Nat.le_of_ble_eq_true rfl) dX7_isMute_17
  · skip
    refine lv_iconst (v := 1) hx hb dX7_isMute_12 (by decide) ?_
    refine lv_goto (tgt := 17) hx hb dX7_isMute_13 (by decide) ?_
    exact sk_iret hx hb hr rfl hlocks hK hP hD hS (⟨1, by omega, rfl, rfl⟩) (Nat.le_of_ble_eq_true rfl) (Nat.le_of_ble_eq_true rfl) dX7_isMute_17
theorem dX7_amount_0 : decode cX7_amount 0 = .ok (.iload_n 2, 1) := by decide +kernel
theorem dX7_amount_1 : decode cX7_amount 1 = .ok (.ifCond .ne 12, 3) := by decide +kernel
theorem dX7_amount_13 : decode cX7_amount 13 = .ok (.aload_n 0, 1) := by decide +kernel
theorem dX7_amount_14 : decode cX7_amount 14 = .ok (.getfield 15, 3) := by decide +kernel
theorem dX7_amount_17 : decode cX7_amount 17 = .ok (.iload_n 1, 1) := by decide +kernel
theorem dX7_amount_18 : decode cX7_amount 18 = .ok (.iaload, 1) := by decide +kernel
theorem dX7_amount_19 : decode cX7_amount 19 = .ok (.ireturn, 1) := by decide +kernel
theorem dX7_amount_4 : decode cX7_amount 4 = .ok (.aload_n 0, 1) := by decide +kernel
theorem dX7_amount_5 : decode cX7_amount 5 = .ok (.getfield 9, 3) := by decide +kernel
theorem dX7_amount_8 : decode cX7_amount 8 = .ok (.iload_n 1, 1) := by decide +kernel
theorem dX7_amount_9 : decode cX7_amount 9 = .ok (.iaload, 1) := by decide +kernel
theorem dX7_amount_10 : decode cX7_amount 10 = .ok (.goto 9, 3) := by decide +kernel
theorem w_5_6 : (Cond.code yX7_amount cX7_amount 3 (some .int)) ∈ wsL_law := sk_mem (ck_5 _ (List.mem_of_getElem? (i := 6) rfl)) rfl
theorem dX7_put_0 : decode cX7_put 0 = .ok (.iload_n 2, 1) := by decide +kernel
theorem dX7_put_1 : decode cX7_put 1 = .ok (.ifCond .ne 13, 3) := by decide +kernel
theorem dX7_put_14 : decode cX7_put 14 = .ok (.aload_n 0, 1) := by decide +kernel
theorem dX7_put_15 : decode cX7_put 15 = .ok (.getfield 15, 3) := by decide +kernel
theorem dX7_put_18 : decode cX7_put 18 = .ok (.iload_n 1, 1) := by decide +kernel
theorem dX7_put_19 : decode cX7_put 19 = .ok (.iload_n 3, 1) := by decide +kernel
theorem dX7_put_20 : decode cX7_put 20 = .ok (.iastore, 1) := by decide +kernel
theorem dX7_put_21 : decode cX7_put 21 = .ok (.return_, 1) := by decide +kernel
theorem dX7_put_4 : decode cX7_put 4 = .ok (.aload_n 0, 1) := by decide +kernel
theorem dX7_put_5 : decode cX7_put 5 = .ok (.getfield 9, 3) := by decide +kernel
theorem dX7_put_8 : decode cX7_put 8 = .ok (.iload_n 1, 1) := by decide +kernel
theorem dX7_put_9 : decode cX7_put 9 = .ok (.iload_n 3, 1) := by decide +kernel
theorem dX7_put_10 : decode cX7_put 10 = .ok (.iastore, 1) := by decide +kernel
theorem dX7_put_11 : decode cX7_put 11 = .ok (.goto 10, 3) := by decide +kernel
theorem w_4_151 : (Cond.code yX7_put cX7_put 4 none) ∈ wsL_law := sk_mem (ck_4 _ (List.mem_of_getElem? (i := 151) rfl)) rfl
theorem dJ7_fill_53178_0 : decode cJ7_fill_53178 0 = .ok (.iconst 0, 1) := by decide +kernel
theorem dJ7_fill_53178_1 : decode cJ7_fill_53178 1 = .ok (.istore_n 2, 1) := by decide +kernel
theorem dJ7_fill_53178_2 : decode cJ7_fill_53178 2 = .ok (.aload_n 0, 1) := by decide +kernel
theorem dJ7_fill_53178_3 : decode cJ7_fill_53178 3 = .ok (.arraylength, 1) := by decide +kernel
theorem dJ7_fill_53178_4 : decode cJ7_fill_53178 4 = .ok (.istore_n 3, 1) := by decide +kernel
theorem dJ7_fill_53178_5 : decode cJ7_fill_53178 5 = .ok (.iload_n 2, 1) := by decide +kernel
theorem dJ7_fill_53178_6 : decode cJ7_fill_53178 6 = .ok (.iload_n 3, 1) := by decide +kernel
theorem dJ7_fill_53178_7 : decode cJ7_fill_53178 7 = .ok (.if_icmp .ge 13, 3) := by decide +kernel
theorem dJ7_fill_53178_20 : decode cJ7_fill_53178 20 = .ok (.return_, 1) := by decide +kernel
theorem dJ7_fill_53178_10 : decode cJ7_fill_53178 10 = .ok (.aload_n 0, 1) := by decide +kernel
theorem dJ7_fill_53178_11 : decode cJ7_fill_53178 11 = .ok (.iload_n 2, 1) := by decide +kernel
theorem dJ7_fill_53178_12 : decode cJ7_fill_53178 12 = .ok (.iload_n 1, 1) := by decide +kernel
theorem dJ7_fill_53178_13 : decode cJ7_fill_53178 13 = .ok (.iastore, 1) := by decide +kernel
theorem dJ7_fill_53178_14 : decode cJ7_fill_53178 14 = .ok (.iinc 2 1, 3) := by decide +kernel
theorem dJ7_fill_53178_17 : decode cJ7_fill_53178 17 = .ok (.goto (-12), 3) := by decide +kernel
theorem w_2_220 : (Cond.code yJ7_fill_53178 cJ7_fill_53178 4 none) ∈ wsL_law := sk_mem (ck_2 _ (List.mem_of_getElem? (i := 220) rfl)) rfl
set_option maxHeartbeats 4000000 in
set_option maxRecDepth 100000 in
theorem c_fill (l : Launch) (D : va_G) (cI cJ cC cZ cS : ClassId) (ar : Nat) (n : Nat) (f : Nat → Int32) (v : Int32) (hn : n < 2147483648) : skM l yJ7_fill_53178 cJ7_fill_53178 4 none 0 0 0 0 D (skT cI cJ cC cZ cS) [.ref ar, .int v] [(ar, .inl (cI, n, .inl f))] (skV D (skT cI cJ cC cZ cS) (fun (u : va_W) => ∃ (g : Nat → Int32), u = [(ar, .inl (cI, n, .inl g))])) := by
  refine skM_of (by decide +kernel) (Nat.le_of_ble_eq_true rfl) ?_
  intro p e s m below meth c A ls E hP hD hl
  obtain ⟨hx, hb, hr, hml, hlocks, hin, hown, hts, hK, hA⟩ := E
  have hown : s.vm.findClass RJ7 = some m.cls := hown
  have hS : va_S A s.heap s.heap [] := va_S.rf
  have hl : lv_has ls 4 [(0, .ref ar), (1, .int v)] := hl
  refine lv_iconst (v := 0) hx hb dJ7_fill_53178_0 (by decide) ?_
  refine lv_istore_n (lv' := [(2, .int 0), (0, .ref ar), (1, .int v)]) hx hb dJ7_fill_53178_1 rfl hl (by decide) rfl (fun ls hl => ?_)
  refine lv_aload_n hx hb dJ7_fill_53178_2 rfl (lv_at hl 1 rfl) ?_
  refine va_alen (v := nI n) hx hb hK.1 hP 0 0 rfl rfl rfl dJ7_fill_53178_3 ?_
  refine lv_istore_n (lv' := [(3, .int (nI n)), (2, .int 0), (0, .ref ar), (1, .int v)]) hx hb dJ7_fill_53178_4 rfl hl (by decide) rfl (fun ls hl => ?_)
  have lp_1 : ∀ (n_2 : Nat) (i : Nat) (fi : Nat → Int32) (H : Heap) (locs : List Loc) (ls : Array Slot), n - i < n_2 → (i ≤ n) → va_P D vwCl [(ar, .inl (cI, n, .inl fi))] H → va_D A [(ar, .inl (cI, n, .inl fi))] → va_S A s.heap H locs → lv_has ls 4 [(3, .int (nI n)), (2, .int (nI i)), (0, .ref ar), (1, .int v)] → W p l e { frames := 0, cells := 0, slots := 0, locals := 0 } s m ([.ref ar, .int v] : List Value).toArray below meth c H locs 0 0 (MQ below (skV D (skT cI cJ cC cZ cS) (fun (u : va_W) => ∃ (g : Nat → Int32), u = [(ar, .inl (cI, n, .inl g))]) A) ([.ref ar, .int v] : List Value).toArray s 0 0 A) (F0 m 5 ls []) := by
    intro n_2
    induction n_2 with
    | zero => intro i fi H locs ls hm; exact absurd hm (Nat.not_lt_zero _)
    | succ n_2 ih_lp_1 =>
      intro i fi H locs ls hm hi hP hD hS hl
      refine lv_iload_n hx hb dJ7_fill_53178_5 rfl (lv_at hl 1 rfl) ?_
      refine lv_iload_n hx hb dJ7_fill_53178_6 rfl (lv_at hl 0 rfl) ?_
      refine lv_icmp_ge (tgt := 20) hx hb dJ7_fill_53178_7 (by decide) (fun c_3 => ?_) (fun c_3 => ?_)
      · have c_3 : n ≤ i := (nle n i (by omega) (by omega)).mp c_3
        exact sk_vret hx hb hr hlocks hK hP hD hS (⟨fi, rfl⟩) (Nat.le_of_ble_eq_true rfl) (Nat.le_of_ble_eq_true rfl) dJ7_fill_53178_20
      · have c_3 : ¬ (n ≤ i) := fun h => c_3 ((nle n i (by omega) (by omega)).mpr h)
        refine lv_aload_n hx hb dJ7_fill_53178_10 rfl (lv_at hl 2 rfl) ?_
        refine lv_iload_n hx hb dJ7_fill_53178_11 rfl (lv_at hl 1 rfl) ?_
        refine lv_iload_n hx hb dJ7_fill_53178_12 rfl (lv_at hl 3 rfl) ?_
        refine sk_iastO (ws' := fun f_4 => [(ar, .inl (cI, n, .inl f_4))]) hx hb hK hP hD hS 0 0 rfl rfl (vin i n (by omega) (by omega)) (fun _ => rfl) dJ7_fill_53178_13 (fun f_4 H locs hP hD hS => ?_)
        refine lv_iinc (v := nI (i + 1)) (lv' := [(2, .int (nI (i + 1))), (3, .int (nI n)), (0, .ref ar), (1, .int v)]) hx hb dJ7_fill_53178_14 hl (k := 1) rfl (ninc i 1 (by decide)) (by decide) rfl (fun ls hl => ?_)
        refine lv_goto (tgt := 5) hx hb dJ7_fill_53178_17 (by decide) ?_
        exact ih_lp_1 (i + 1) f_4 _ _ _ (by omega) (by omega) hP hD hS (lv_sub hl [1, 0, 2, 3] rfl)
  exact lp_1 (n - 0 + 1) 0 f _ _ _ (Nat.lt_succ_self _) (by omega) hP hD hS (lv_sub hl [0, 1, 2, 3] rfl)
theorem dJ7_fill_d0a16_0 : decode cJ7_fill_d0a16 0 = .ok (.iconst 0, 1) := by decide +kernel
theorem dJ7_fill_d0a16_1 : decode cJ7_fill_d0a16 1 = .ok (.istore_n 3, 1) := by decide +kernel
theorem dJ7_fill_d0a16_2 : decode cJ7_fill_d0a16 2 = .ok (.aload_n 0, 1) := by decide +kernel
theorem dJ7_fill_d0a16_3 : decode cJ7_fill_d0a16 3 = .ok (.arraylength, 1) := by decide +kernel
theorem dJ7_fill_d0a16_4 : decode cJ7_fill_d0a16 4 = .ok (.istore 4, 2) := by decide +kernel
theorem dJ7_fill_d0a16_6 : decode cJ7_fill_d0a16 6 = .ok (.iload_n 3, 1) := by decide +kernel
theorem dJ7_fill_d0a16_7 : decode cJ7_fill_d0a16 7 = .ok (.iload 4, 2) := by decide +kernel
theorem dJ7_fill_d0a16_9 : decode cJ7_fill_d0a16 9 = .ok (.if_icmp .ge 13, 3) := by decide +kernel
theorem dJ7_fill_d0a16_22 : decode cJ7_fill_d0a16 22 = .ok (.return_, 1) := by decide +kernel
theorem dJ7_fill_d0a16_12 : decode cJ7_fill_d0a16 12 = .ok (.aload_n 0, 1) := by decide +kernel
theorem dJ7_fill_d0a16_13 : decode cJ7_fill_d0a16 13 = .ok (.iload_n 3, 1) := by decide +kernel
theorem dJ7_fill_d0a16_14 : decode cJ7_fill_d0a16 14 = .ok (.lload_n 1, 1) := by decide +kernel
theorem dJ7_fill_d0a16_15 : decode cJ7_fill_d0a16 15 = .ok (.lastore, 1) := by decide +kernel
theorem dJ7_fill_d0a16_16 : decode cJ7_fill_d0a16 16 = .ok (.iinc 3 1, 3) := by decide +kernel
theorem dJ7_fill_d0a16_19 : decode cJ7_fill_d0a16 19 = .ok (.goto (-13), 3) := by decide +kernel
theorem w_4_87 : (Cond.code yJ7_fill_d0a16 cJ7_fill_d0a16 5 none) ∈ wsL_law := sk_mem (ck_4 _ (List.mem_of_getElem? (i := 87) rfl)) rfl
set_option maxHeartbeats 4000000 in
set_option maxRecDepth 100000 in
theorem c_fillL (l : Launch) (D : va_G) (cI cJ cC cZ cS : ClassId) (ar : Nat) (n : Nat) (f : Nat → Int64) (v : Int64) (hn : n < 2147483648) : skM l yJ7_fill_d0a16 cJ7_fill_d0a16 5 none 0 0 0 0 D (skT cI cJ cC cZ cS) [.ref ar, .long v] [(ar, .inl (cJ, n, .inr (.inl f)))] (skV D (skT cI cJ cC cZ cS) (fun (u : va_W) => ∃ (g : Nat → Int64), u = [(ar, .inl (cJ, n, .inr (.inl g)))])) := by
  refine skM_of (by decide +kernel) (Nat.le_of_ble_eq_true rfl) ?_
  intro p e s m below meth c A ls E hP hD hl
  obtain ⟨hx, hb, hr, hml, hlocks, hin, hown, hts, hK, hA⟩ := E
  have hown : s.vm.findClass RJ7 = some m.cls := hown
  have hS : va_S A s.heap s.heap [] := va_S.rf
  have hl : lv_has ls 5 [(0, .ref ar), (1, .long v)] := hl
  refine lv_iconst (v := 0) hx hb dJ7_fill_d0a16_0 (by decide) ?_
  refine lv_istore_n (lv' := [(3, .int 0), (0, .ref ar), (1, .long v)]) hx hb dJ7_fill_d0a16_1 rfl hl (by decide) rfl (fun ls hl => ?_)
  refine lv_aload_n hx hb dJ7_fill_d0a16_2 rfl (lv_at hl 1 rfl) ?_
  refine va_alen (v := nI n) hx hb hK.1 hP 0 1 rfl rfl rfl dJ7_fill_d0a16_3 ?_
  refine lv_istore (lv' := [(4, .int (nI n)), (3, .int 0), (0, .ref ar), (1, .long v)]) hx hb dJ7_fill_d0a16_4 hl (by decide) rfl (fun ls hl => ?_)
  have lp_1 : ∀ (n_2 : Nat) (i : Nat) (fi : Nat → Int64) (H : Heap) (locs : List Loc) (ls : Array Slot), n - i < n_2 → (i ≤ n) → va_P D vwCl [(ar, .inl (cJ, n, .inr (.inl fi)))] H → va_D A [(ar, .inl (cJ, n, .inr (.inl fi)))] → va_S A s.heap H locs → lv_has ls 5 [(4, .int (nI n)), (3, .int (nI i)), (0, .ref ar), (1, .long v)] → W p l e { frames := 0, cells := 0, slots := 0, locals := 0 } s m ([.ref ar, .long v] : List Value).toArray below meth c H locs 0 0 (MQ below (skV D (skT cI cJ cC cZ cS) (fun (u : va_W) => ∃ (g : Nat → Int64), u = [(ar, .inl (cJ, n, .inr (.inl g)))]) A) ([.ref ar, .long v] : List Value).toArray s 0 0 A) (F0 m 6 ls []) := by
    intro n_2
    induction n_2 with
    | zero => intro i fi H locs ls hm; exact absurd hm (Nat.not_lt_zero _)
    | succ n_2 ih_lp_1 =>
      intro i fi H locs ls hm hi hP hD hS hl
      refine lv_iload_n hx hb dJ7_fill_d0a16_6 rfl (lv_at hl 1 rfl) ?_
      refine lv_iload hx hb dJ7_fill_d0a16_7 (lv_at hl 0 rfl) ?_
      refine lv_icmp_ge (tgt := 22) hx hb dJ7_fill_d0a16_9 (by decide) (fun c_3 => ?_) (fun c_3 => ?_)
      · have c_3 : n ≤ i := (nle n i (by omega) (by omega)).mp c_3
        exact sk_vret hx hb hr hlocks hK hP hD hS (⟨fi, rfl⟩) (Nat.le_of_ble_eq_true rfl) (Nat.le_of_ble_eq_true rfl) dJ7_fill_d0a16_22
      · have c_3 : ¬ (n ≤ i) := fun h => c_3 ((nle n i (by omega) (by omega)).mpr h)
        refine lv_aload_n hx hb dJ7_fill_d0a16_12 rfl (lv_at hl 2 rfl) ?_
        refine lv_iload_n hx hb dJ7_fill_d0a16_13 rfl (lv_at hl 1 rfl) ?_
        refine lv_lload_n hx hb dJ7_fill_d0a16_14 rfl (lv_at hl 3 rfl) ?_
        refine sk_lastO (ws' := fun f_4 => [(ar, .inl (cJ, n, .inr (.inl f_4)))]) hx hb hK hP hD hS 0 1 rfl rfl (vin i n (by omega) (by omega)) (fun _ => rfl) dJ7_fill_d0a16_15 (fun f_4 H locs hP hD hS => ?_)
        refine lv_iinc (v := nI (i + 1)) (lv' := [(3, .int (nI (i + 1))), (4, .int (nI n)), (0, .ref ar), (1, .long v)]) hx hb dJ7_fill_d0a16_16 hl (k := 1) rfl (ninc i 1 (by decide)) (by decide) rfl (fun ls hl => ?_)
        refine lv_goto (tgt := 6) hx hb dJ7_fill_d0a16_19 (by decide) ?_
        exact ih_lp_1 (i + 1) f_4 _ _ _ (by omega) (by omega) hP hD hS (lv_sub hl [1, 0, 2, 3] rfl)
  exact lp_1 (n - 0 + 1) 0 f _ _ _ (Nat.lt_succ_self _) (by omega) hP hD hS (lv_sub hl [0, 1, 2, 3] rfl)
theorem dX9_moodsBehind_0 : decode cX9_moodsBehind 0 = .ok (.iconst 0, 1) := by decide +kernel
theorem dX9_moodsBehind_1 : decode cX9_moodsBehind 1 = .ok (.istore 4, 2) := by decide +kernel
theorem dX9_moodsBehind_3 : decode cX9_moodsBehind 3 = .ok (.iconst 0, 1) := by decide +kernel
theorem dX9_moodsBehind_4 : decode cX9_moodsBehind 4 = .ok (.istore 5, 2) := by decide +kernel
theorem dX9_moodsBehind_6 : decode cX9_moodsBehind 6 = .ok (.iload 5, 2) := by decide +kernel
theorem dX9_moodsBehind_8 : decode cX9_moodsBehind 8 = .ok (.bipush 10, 2) := by decide +kernel
theorem dX9_moodsBehind_10 : decode cX9_moodsBehind 10 = .ok (.if_icmp .ge 59, 3) := by decide +kernel
theorem dX9_moodsBehind_69 : decode cX9_moodsBehind 69 = .ok (.iload 4, 2) := by decide +kernel
theorem dX9_moodsBehind_71 : decode cX9_moodsBehind 71 = .ok (.ireturn, 1) := by decide +kernel
theorem dX9_moodsBehind_13 : decode cX9_moodsBehind 13 = .ok (.aload_n 0, 1) := by decide +kernel
theorem dX9_moodsBehind_14 : decode cX9_moodsBehind 14 = .ok (.getfield 9, 3) := by decide +kernel
theorem dX9_moodsBehind_17 : decode cX9_moodsBehind 17 = .ok (.iload_n 1, 1) := by decide +kernel
theorem dX9_moodsBehind_18 : decode cX9_moodsBehind 18 = .ok (.bipush 10, 2) := by decide +kernel
theorem dX9_moodsBehind_20 : decode cX9_moodsBehind 20 = .ok (.imul, 1) := by decide +kernel
theorem dX9_moodsBehind_21 : decode cX9_moodsBehind 21 = .ok (.iload 5, 2) := by decide +kernel
theorem dX9_moodsBehind_23 : decode cX9_moodsBehind 23 = .ok (.iadd, 1) := by decide +kernel
theorem dX9_moodsBehind_24 : decode cX9_moodsBehind 24 = .ok (.iaload, 1) := by decide +kernel
theorem dX9_moodsBehind_25 : decode cX9_moodsBehind 25 = .ok (.iload_n 3, 1) := by decide +kernel
theorem dX9_moodsBehind_26 : decode cX9_moodsBehind 26 = .ok (.iadd, 1) := by decide +kernel
theorem dX9_moodsBehind_27 : decode cX9_moodsBehind 27 = .ok (.bipush 10, 2) := by decide +kernel
theorem dX9_moodsBehind_29 : decode cX9_moodsBehind 29 = .ok (.irem, 1) := by decide +kernel
theorem dX9_moodsBehind_30 : decode cX9_moodsBehind 30 = .ok (.istore 6, 2) := by decide +kernel
theorem dX9_moodsBehind_32 : decode cX9_moodsBehind 32 = .ok (.aload_n 0, 1) := by decide +kernel
theorem dX9_moodsBehind_33 : decode cX9_moodsBehind 33 = .ok (.getfield 15, 3) := by decide +kernel
theorem dX9_moodsBehind_36 : decode cX9_moodsBehind 36 = .ok (.iload_n 1, 1) := by decide +kernel
theorem dX9_moodsBehind_37 : decode cX9_moodsBehind 37 = .ok (.bipush 10, 2) := by decide +kernel
theorem dX9_moodsBehind_39 : decode cX9_moodsBehind 39 = .ok (.imul, 1) := by decide +kernel
theorem dX9_moodsBehind_40 : decode cX9_moodsBehind 40 = .ok (.iload_n 2, 1) := by decide +kernel
theorem dX9_moodsBehind_41 : decode cX9_moodsBehind 41 = .ok (.iadd, 1) := by decide +kernel
theorem dX9_moodsBehind_42 : decode cX9_moodsBehind 42 = .ok (.bipush 10, 2) := by decide +kernel
theorem dX9_moodsBehind_44 : decode cX9_moodsBehind 44 = .ok (.imul, 1) := by decide +kernel
theorem dX9_moodsBehind_45 : decode cX9_moodsBehind 45 = .ok (.iload 6, 2) := by decide +kernel
theorem dX9_moodsBehind_47 : decode cX9_moodsBehind 47 = .ok (.iadd, 1) := by decide +kernel
theorem dX9_moodsBehind_48 : decode cX9_moodsBehind 48 = .ok (.iaload, 1) := by decide +kernel
theorem dX9_moodsBehind_49 : decode cX9_moodsBehind 49 = .ok (.iload 5, 2) := by decide +kernel
theorem dX9_moodsBehind_51 : decode cX9_moodsBehind 51 = .ok (.if_icmp .ne 12, 3) := by decide +kernel
theorem dX9_moodsBehind_63 : decode cX9_moodsBehind 63 = .ok (.iinc 5 1, 3) := by decide +kernel
theorem dX9_moodsBehind_66 : decode cX9_moodsBehind 66 = .ok (.goto (-60), 3) := by decide +kernel
theorem dX9_moodsBehind_54 : decode cX9_moodsBehind 54 = .ok (.iload 4, 2) := by decide +kernel
theorem dX9_moodsBehind_56 : decode cX9_moodsBehind 56 = .ok (.iconst 1, 1) := by decide +kernel
theorem dX9_moodsBehind_57 : decode cX9_moodsBehind 57 = .ok (.iload 5, 2) := by decide +kernel
theorem dX9_moodsBehind_59 : decode cX9_moodsBehind 59 = .ok (.ishl, 1) := by decide +kernel
theorem dX9_moodsBehind_60 : decode cX9_moodsBehind 60 = .ok (.ior, 1) := by decide +kernel
theorem dX9_moodsBehind_61 : decode cX9_moodsBehind 61 = .ok (.istore 4, 2) := by decide +kernel
theorem w_2_63 : (Cond.fieldLink RX9 9 "SameKeeper$Table" "said" "[I") ∈ wsL_law := sk_mem (ck_2 _ (List.mem_of_getElem? (i := 63) rfl)) rfl
theorem w_2_65 : (Cond.fieldLink RX9 15 "SameKeeper$Table" "turned" "[I") ∈ wsL_law := sk_mem (ck_2 _ (List.mem_of_getElem? (i := 65) rfl)) rfl
theorem w_4_20 : (Cond.code yX9_moodsBehind cX9_moodsBehind 7 (some .int)) ∈ wsL_law := sk_mem (ck_4 _ (List.mem_of_getElem? (i := 20) rfl)) rfl
set_option maxHeartbeats 4000000 in
set_option maxRecDepth 100000 in
theorem c_moodsBehind (l : Launch) (D : va_G) (cI cJ cC cZ cS : ClassId) (q : Nat → Nat) (sa : Nat → Nat) (ft : Nat → Int32) (d : Nat) (ah : Nat) (li : Nat) (hsa : ∀ j, sa j ≤ 9) (hd : d < 9) (hah : ah < 10) (hli : li < 10) : skM l yX9_moodsBehind cX9_moodsBehind 7 (some .int) 0 0 0 0 D (skT cI cJ cC cZ cS) [.ref (q 10), .int (nI d), .int (nI ah), .int (nI li)] [(q 10, .inr (9, [.ref (q 61), .ref (q 62), .ref (q 63), .ref (q 64), .ref (q 65), .ref (q 66)])), (q 61, .inl (cI, 90, .inl (fun j => nI (sa j)))), (q 62, .inl (cI, 900, .inl ft))] (skI D (skT cI cJ cC cZ cS) (fun (r : Int32) (u : va_W) => u = [(q 10, .inr (9, [.ref (q 61), .ref (q 62), .ref (q 63), .ref (q 64), .ref (q 65), .ref (q 66)])), (q 61, .inl (cI, 90, .inl (fun j => nI (sa j)))), (q 62, .inl (cI, 900, .inl ft))])) := by
  refine skM_of (by decide +kernel) (Nat.le_of_ble_eq_true rfl) ?_
  intro p e s m below meth c A ls E hP hD hl
  obtain ⟨hx, hb, hr, hml, hlocks, hin, hown, hts, hK, hA⟩ := E
  have hown : s.vm.findClass RX9 = some m.cls := hown
  have hS : va_S A s.heap s.heap [] := va_S.rf
  have hl : lv_has ls 7 [(0, .ref (q 10)), (1, .int (nI d)), (2, .int (nI ah)), (3, .int (nI li))] := hl
  refine lv_iconst (v := 0) hx hb dX9_moodsBehind_0 (by decide) ?_
  refine lv_istore (lv' := [(4, .int 0), (0, .ref (q 10)), (1, .int (nI d)), (2, .int (nI ah)), (3, .int (nI li))]) hx hb dX9_moodsBehind_1 hl (by decide) rfl (fun ls hl => ?_)
  refine lv_iconst (v := 0) hx hb dX9_moodsBehind_3 (by decide) ?_
  refine lv_istore (lv' := [(5, .int 0), (4, .int 0), (0, .ref (q 10)), (1, .int (nI d)), (2, .int (nI ah)), (3, .int (nI li))]) hx hb dX9_moodsBehind_4 hl (by decide) rfl (fun ls hl => ?_)
  have lp_1 : ∀ (n_2 : Nat) (i : Nat) (mo : Int32) (H : Heap) (locs : List Loc) (ls : Array Slot), 10 - i < n_2 → (i ≤ 10) → va_P D vwCl [(q 10, .inr (9, [.ref (q 61), .ref (q 62), .ref (q 63), .ref (q 64), .ref (q 65), .ref (q 66)])), (q 61, .inl (cI, 90, .inl (fun j => nI (sa j)))), (q 62, .inl (cI, 900, .inl ft))] H → va_D A [(q 10, .inr (9, [.ref (q 61), .ref (q 62), .ref (q 63), .ref (q 64), .ref (q 65), .ref (q 66)])), (q 61, .inl (cI, 90, .inl (fun j => nI (sa j)))), (q 62, .inl (cI, 900, .inl ft))] → va_S A s.heap H locs → lv_has ls 7 [(5, .int (nI i)), (4, .int mo), (0, .ref (q 10)), (1, .int (nI d)), (2, .int (nI ah)), (3, .int (nI li))] → W p l e { frames := 0, cells := 0, slots := 0, locals := 0 } s m ([.ref (q 10), .int (nI d), .int (nI ah), .int (nI li)] : List Value).toArray below meth c H locs 0 0 (MQ below (skI D (skT cI cJ cC cZ cS) (fun (r : Int32) (u : va_W) => u = [(q 10, .inr (9, [.ref (q 61), .ref (q 62), .ref (q 63), .ref (q 64), .ref (q 65), .ref (q 66)])), (q 61, .inl (cI, 90, .inl (fun j => nI (sa j)))), (q 62, .inl (cI, 900, .inl ft))]) A) ([.ref (q 10), .int (nI d), .int (nI ah), .int (nI li)] : List Value).toArray s 0 0 A) (F0 m 6 ls []) := by
    intro n_2
    induction n_2 with
    | zero => intro i mo H locs ls hm; exact absurd hm (Nat.not_lt_zero _)
    | succ n_2 ih_lp_1 =>
      intro i mo H locs ls hm hi hP hD hS hl
      refine lv_iload hx hb dX9_moodsBehind_6 (lv_at hl 0 rfl) ?_
      refine lv_bipush (v := 10) hx hb dX9_moodsBehind_8 (by decide) ?_
      refine lv_icmp_ge (tgt := 69) hx hb dX9_moodsBehind_10 (by decide) (fun c_3 => ?_) (fun c_3 => ?_)
      · have c_3 : 10 ≤ i := (nle 10 i (by omega) (by omega)).mp c_3
        refine lv_iload hx hb dX9_moodsBehind_69 (lv_at hl 1 rfl) ?_
        exact sk_iret hx hb hr rfl hlocks hK hP hD hS rfl (Nat.le_of_ble_eq_true rfl) (Nat.le_of_ble_eq_true rfl) dX9_moodsBehind_71
      · have c_3 : ¬ (10 ≤ i) := fun h => c_3 ((nle 10 i (by omega) (by omega)).mpr h)
        refine lv_aload_n hx hb dX9_moodsBehind_13 rfl (lv_at hl 2 rfl) ?_
        refine sk_get (v := .ref (q 61)) (C := RX9) (T := TX9) (N := 6) hx hb hts inlX9 hown hK hP 0 rfl rfl 0 (by decide) w_2_63 rfl dX9_moodsBehind_14 ?_
        refine lv_iload_n hx hb dX9_moodsBehind_17 rfl (lv_at hl 3 rfl) ?_
        refine lv_bipush (v := 10) hx hb dX9_moodsBehind_18 (by decide) ?_
        refine lv_imul hx hb dX9_moodsBehind_20 ?_
        refine sk_top (nI (d * 10)) (nmul d 10) ?_
        refine lv_iload hx hb dX9_moodsBehind_21 (lv_at hl 0 rfl) ?_
        refine lv_iadd hx hb dX9_moodsBehind_23 ?_
        refine sk_top (nI (d * 10 + i)) (nI_add (d * 10) i) ?_
        refine va_iald hx hb hK.1 hP 1 0 rfl rfl (vin (d * 10 + i) 90 (by omega) (by omega)) dX9_moodsBehind_24 ?_
        refine sk_top (nI (sa (d * 10 + i))) (nrd sa (d * 10 + i) (by omega)) ?_
        have hb_4 := hsa (d * 10 + i)
        refine lv_iload_n hx hb dX9_moodsBehind_25 rfl (lv_at hl 5 rfl) ?_
        refine lv_iadd hx hb dX9_moodsBehind_26 ?_
        refine sk_top (nI (sa (d * 10 + i) + li)) (nI_add (sa (d * 10 + i)) li) ?_
        refine lv_bipush (v := 10) hx hb dX9_moodsBehind_27 (by decide) ?_
        refine lv_irem hx hb dX9_moodsBehind_29 (by decide) ?_
        refine sk_top (nI ((sa (d * 10 + i) + li) % 10)) (nrem (sa (d * 10 + i) + li) 10 (by omega) (by omega) (by omega)) ?_
        refine lv_istore (lv' := [(6, .int (nI ((sa (d * 10 + i) + li) % 10))), (5, .int (nI i)), (4, .int mo), (0, .ref (q 10)), (1, .int (nI d)), (2, .int (nI ah)), (3, .int (nI li))]) hx hb dX9_moodsBehind_30 hl (by decide) rfl (fun ls hl => ?_)
        refine lv_aload_n hx hb dX9_moodsBehind_32 rfl (lv_at hl 3 rfl) ?_
        refine sk_get (v := .ref (q 62)) (C := RX9) (T := TX9) (N := 6) hx hb hts inlX9 hown hK hP 0 rfl rfl 1 (by decide) w_2_65 rfl dX9_moodsBehind_33 ?_
        refine lv_iload_n hx hb dX9_moodsBehind_36 rfl (lv_at hl 4 rfl) ?_
        refine lv_bipush (v := 10) hx hb dX9_moodsBehind_37 (by decide) ?_
        refine lv_imul hx hb dX9_moodsBehind_39 ?_
        refine sk_top (nI (d * 10)) (nmul d 10) ?_
        refine lv_iload_n hx hb dX9_moodsBehind_40 rfl (lv_at hl 5 rfl) ?_
        refine lv_iadd hx hb dX9_moodsBehind_41 ?_
        refine sk_top (nI (d * 10 + ah)) (nI_add (d * 10) ah) ?_
        refine lv_bipush (v := 10) hx hb dX9_moodsBehind_42 (by decide) ?_
        refine lv_imul hx hb dX9_moodsBehind_44 ?_
        refine sk_top (nI ((d * 10 + ah) * 10)) (nmul (d * 10 + ah) 10) ?_
        refine lv_iload hx hb dX9_moodsBehind_45 (lv_at hl 0 rfl) ?_
        refine lv_iadd hx hb dX9_moodsBehind_47 ?_
        refine sk_top (nI ((d * 10 + ah) * 10 + ((sa (d * 10 + i) + li) % 10))) (nI_add ((d * 10 + ah) * 10) ((sa (d * 10 + i) + li) % 10)) ?_
        refine va_iald hx hb hK.1 hP 2 0 rfl rfl (vin ((d * 10 + ah) * 10 + ((sa (d * 10 + i) + li) % 10)) 900 (by omega) (by omega)) dX9_moodsBehind_48 ?_
        refine lv_topi (fun v_5 ev_5 => ?_)
        refine lv_iload hx hb dX9_moodsBehind_49 (lv_at hl 1 rfl) ?_
        refine lv_icmp_ne (tgt := 63) hx hb dX9_moodsBehind_51 (by decide) (fun c_6 => ?_) (fun c_6 => ?_)
        · skip
          refine lv_iinc (v := nI (i + 1)) (lv' := [(5, .int (nI (i + 1))), (6, .int (nI ((sa (d * 10 + i) + li) % 10))), (4, .int mo), (0, .ref (q 10)), (1, .int (nI d)), (2, .int (nI ah)), (3, .int (nI li))]) hx hb dX9_moodsBehind_63 hl (k := 1) rfl (ninc i 1 (by decide)) (by decide) rfl (fun ls hl => ?_)
          refine lv_goto (tgt := 6) hx hb dX9_moodsBehind_66 (by decide) ?_
          exact ih_lp_1 (i + 1) mo _ _ _ (by omega) (by omega) hP hD hS (lv_sub hl [0, 2, 3, 4, 5, 6] rfl)
        · skip
          refine lv_iload hx hb dX9_moodsBehind_54 (lv_at hl 2 rfl) ?_
          refine lv_iconst (v := 1) hx hb dX9_moodsBehind_56 (by decide) ?_
          refine lv_iload hx hb dX9_moodsBehind_57 (lv_at hl 1 rfl) ?_
          refine lv_ishl hx hb dX9_moodsBehind_59 ?_
          refine lv_topi (fun v_7 ev_7 => ?_)
          refine lv_ior hx hb dX9_moodsBehind_60 ?_
          refine lv_topi (fun v_8 ev_8 => ?_)
          refine lv_istore (lv' := [(4, .int v_8), (6, .int (nI ((sa (d * 10 + i) + li) % 10))), (5, .int (nI i)), (0, .ref (q 10)), (1, .int (nI d)), (2, .int (nI ah)), (3, .int (nI li))]) hx hb dX9_moodsBehind_61 hl (by decide) rfl (fun ls hl => ?_)
          refine lv_iinc (v := nI (i + 1)) (lv' := [(5, .int (nI (i + 1))), (4, .int v_8), (6, .int (nI ((sa (d * 10 + i) + li) % 10))), (0, .ref (q 10)), (1, .int (nI d)), (2, .int (nI ah)), (3, .int (nI li))]) hx hb dX9_moodsBehind_63 hl (k := 2) rfl (ninc i 1 (by decide)) (by decide) rfl (fun ls hl => ?_)
          refine lv_goto (tgt := 6) hx hb dX9_moodsBehind_66 (by decide) ?_
          exact ih_lp_1 (i + 1) v_8 _ _ _ (by omega) (by omega) hP hD hS (lv_sub hl [0, 1, 3, 4, 5, 6] rfl)
  exact lp_1 (10 - 0 + 1) 0 0 _ _ _ (Nat.lt_succ_self _) (by omega) hP hD hS (lv_sub hl [0, 1, 2, 3, 4, 5] rfl)
theorem dX9_moodsThatSay_0 : decode cX9_moodsThatSay 0 = .ok (.iconst 0, 1) := by decide +kernel
theorem dX9_moodsThatSay_1 : decode cX9_moodsThatSay 1 = .ok (.istore_n 3, 1) := by decide +kernel
theorem dX9_moodsThatSay_2 : decode cX9_moodsThatSay 2 = .ok (.iconst 0, 1) := by decide +kernel
theorem dX9_moodsThatSay_3 : decode cX9_moodsThatSay 3 = .ok (.istore 4, 2) := by decide +kernel
theorem dX9_moodsThatSay_5 : decode cX9_moodsThatSay 5 = .ok (.iload 4, 2) := by decide +kernel
theorem dX9_moodsThatSay_7 : decode cX9_moodsThatSay 7 = .ok (.bipush 10, 2) := by decide +kernel
theorem dX9_moodsThatSay_9 : decode cX9_moodsThatSay 9 = .ok (.if_icmp .ge 32, 3) := by decide +kernel
theorem dX9_moodsThatSay_41 : decode cX9_moodsThatSay 41 = .ok (.iload_n 3, 1) := by decide +kernel
theorem dX9_moodsThatSay_42 : decode cX9_moodsThatSay 42 = .ok (.ireturn, 1) := by decide +kernel
theorem dX9_moodsThatSay_12 : decode cX9_moodsThatSay 12 = .ok (.aload_n 0, 1) := by decide +kernel
theorem dX9_moodsThatSay_13 : decode cX9_moodsThatSay 13 = .ok (.getfield 9, 3) := by decide +kernel
theorem dX9_moodsThatSay_16 : decode cX9_moodsThatSay 16 = .ok (.iload_n 1, 1) := by decide +kernel
theorem dX9_moodsThatSay_17 : decode cX9_moodsThatSay 17 = .ok (.bipush 10, 2) := by decide +kernel
theorem dX9_moodsThatSay_19 : decode cX9_moodsThatSay 19 = .ok (.imul, 1) := by decide +kernel
theorem dX9_moodsThatSay_20 : decode cX9_moodsThatSay 20 = .ok (.iload 4, 2) := by decide +kernel
theorem dX9_moodsThatSay_22 : decode cX9_moodsThatSay 22 = .ok (.iadd, 1) := by decide +kernel
theorem dX9_moodsThatSay_23 : decode cX9_moodsThatSay 23 = .ok (.iaload, 1) := by decide +kernel
theorem dX9_moodsThatSay_24 : decode cX9_moodsThatSay 24 = .ok (.iload_n 2, 1) := by decide +kernel
theorem dX9_moodsThatSay_25 : decode cX9_moodsThatSay 25 = .ok (.if_icmp .ne 10, 3) := by decide +kernel
theorem dX9_moodsThatSay_35 : decode cX9_moodsThatSay 35 = .ok (.iinc 4 1, 3) := by decide +kernel
theorem dX9_moodsThatSay_38 : decode cX9_moodsThatSay 38 = .ok (.goto (-33), 3) := by decide +kernel
theorem dX9_moodsThatSay_28 : decode cX9_moodsThatSay 28 = .ok (.iload_n 3, 1) := by decide +kernel
theorem dX9_moodsThatSay_29 : decode cX9_moodsThatSay 29 = .ok (.iconst 1, 1) := by decide +kernel
theorem dX9_moodsThatSay_30 : decode cX9_moodsThatSay 30 = .ok (.iload 4, 2) := by decide +kernel
theorem dX9_moodsThatSay_32 : decode cX9_moodsThatSay 32 = .ok (.ishl, 1) := by decide +kernel
theorem dX9_moodsThatSay_33 : decode cX9_moodsThatSay 33 = .ok (.ior, 1) := by decide +kernel
theorem dX9_moodsThatSay_34 : decode cX9_moodsThatSay 34 = .ok (.istore_n 3, 1) := by decide +kernel
theorem w_4_197 : (Cond.code yX9_moodsThatSay cX9_moodsThatSay 5 (some .int)) ∈ wsL_law := sk_mem (ck_4 _ (List.mem_of_getElem? (i := 197) rfl)) rfl
set_option maxHeartbeats 4000000 in
set_option maxRecDepth 100000 in
theorem c_moodsThatSay (l : Launch) (D : va_G) (cI cJ cC cZ cS : ClassId) (q : Nat → Nat) (sa : Nat → Nat) (d : Nat) (o : Int32) (hsa : ∀ j, sa j ≤ 9) (hd : d < 9) : skM l yX9_moodsThatSay cX9_moodsThatSay 5 (some .int) 0 0 0 0 D (skT cI cJ cC cZ cS) [.ref (q 10), .int (nI d), .int o] [(q 10, .inr (9, [.ref (q 61), .ref (q 62), .ref (q 63), .ref (q 64), .ref (q 65), .ref (q 66)])), (q 61, .inl (cI, 90, .inl (fun j => nI (sa j))))] (skI D (skT cI cJ cC cZ cS) (fun (r : Int32) (u : va_W) => u = [(q 10, .inr (9, [.ref (q 61), .ref (q 62), .ref (q 63), .ref (q 64), .ref (q 65), .ref (q 66)])), (q 61, .inl (cI, 90, .inl (fun j => nI (sa j))))])) := by
  refine skM_of (by decide +kernel) (Nat.le_of_ble_eq_true rfl) ?_
  intro p e s m below meth c A ls E hP hD hl
  obtain ⟨hx, hb, hr, hml, hlocks, hin, hown, hts, hK, hA⟩ := E
  have hown : s.vm.findClass RX9 = some m.cls := hown
  have hS : va_S A s.heap s.heap [] := va_S.rf
  have hl : lv_has ls 5 [(0, .ref (q 10)), (1, .int (nI d)), (2, .int o)] := hl
  refine lv_iconst (v := 0) hx hb dX9_moodsThatSay_0 (by decide) ?_
  refine lv_istore_n (lv' := [(3, .int 0), (0, .ref (q 10)), (1, .int (nI d)), (2, .int o)]) hx hb dX9_moodsThatSay_1 rfl hl (by decide) rfl (fun ls hl => ?_)
  refine lv_iconst (v := 0) hx hb dX9_moodsThatSay_2 (by decide) ?_
  refine lv_istore (lv' := [(4, .int 0), (3, .int 0), (0, .ref (q 10)), (1, .int (nI d)), (2, .int o)]) hx hb dX9_moodsThatSay_3 hl (by decide) rfl (fun ls hl => ?_)
  have lp_1 : ∀ (n_2 : Nat) (i : Nat) (mo : Int32) (H : Heap) (locs : List Loc) (ls : Array Slot), 10 - i < n_2 → (i ≤ 10) → va_P D vwCl [(q 10, .inr (9, [.ref (q 61), .ref (q 62), .ref (q 63), .ref (q 64), .ref (q 65), .ref (q 66)])), (q 61, .inl (cI, 90, .inl (fun j => nI (sa j))))] H → va_D A [(q 10, .inr (9, [.ref (q 61), .ref (q 62), .ref (q 63), .ref (q 64), .ref (q 65), .ref (q 66)])), (q 61, .inl (cI, 90, .inl (fun j => nI (sa j))))] → va_S A s.heap H locs → lv_has ls 5 [(4, .int (nI i)), (3, .int mo), (0, .ref (q 10)), (1, .int (nI d)), (2, .int o)] → W p l e { frames := 0, cells := 0, slots := 0, locals := 0 } s m ([.ref (q 10), .int (nI d), .int o] : List Value).toArray below meth c H locs 0 0 (MQ below (skI D (skT cI cJ cC cZ cS) (fun (r : Int32) (u : va_W) => u = [(q 10, .inr (9, [.ref (q 61), .ref (q 62), .ref (q 63), .ref (q 64), .ref (q 65), .ref (q 66)])), (q 61, .inl (cI, 90, .inl (fun j => nI (sa j))))]) A) ([.ref (q 10), .int (nI d), .int o] : List Value).toArray s 0 0 A) (F0 m 5 ls []) := by
    intro n_2
    induction n_2 with
    | zero => intro i mo H locs ls hm; exact absurd hm (Nat.not_lt_zero _)
    | succ n_2 ih_lp_1 =>
      intro i mo H locs ls hm hi hP hD hS hl
      refine lv_iload hx hb dX9_moodsThatSay_5 (lv_at hl 0 rfl) ?_
      refine lv_bipush (v := 10) hx hb dX9_moodsThatSay_7 (by decide) ?_
      refine lv_icmp_ge (tgt := 41) hx hb dX9_moodsThatSay_9 (by decide) (fun c_3 => ?_) (fun c_3 => ?_)
      · have c_3 : 10 ≤ i := (nle 10 i (by omega) (by omega)).mp c_3
        refine lv_iload_n hx hb dX9_moodsThatSay_41 rfl (lv_at hl 1 rfl) ?_
        exact sk_iret hx hb hr rfl hlocks hK hP hD hS rfl (Nat.le_of_ble_eq_true rfl) (Nat.le_of_ble_eq_true rfl) dX9_moodsThatSay_42
      · have c_3 : ¬ (10 ≤ i) := fun h => c_3 ((nle 10 i (by omega) (by omega)).mpr h)
        refine lv_aload_n hx hb dX9_moodsThatSay_12 rfl (lv_at hl 2 rfl) ?_
        refine sk_get (v := .ref (q 61)) (C := RX9) (T := TX9) (N := 6) hx hb hts inlX9 hown hK hP 0 rfl rfl 0 (by decide) w_2_63 rfl dX9_moodsThatSay_13 ?_
        refine lv_iload_n hx hb dX9_moodsThatSay_16 rfl (lv_at hl 3 rfl) ?_
        refine lv_bipush (v := 10) hx hb dX9_moodsThatSay_17 (by decide) ?_
        refine lv_imul hx hb dX9_moodsThatSay_19 ?_
        refine sk_top (nI (d * 10)) (nmul d 10) ?_
        refine lv_iload hx hb dX9_moodsThatSay_20 (lv_at hl 0 rfl) ?_
        refine lv_iadd hx hb dX9_moodsThatSay_22 ?_
        refine sk_top (nI (d * 10 + i)) (nI_add (d * 10) i) ?_
        refine va_iald hx hb hK.1 hP 1 0 rfl rfl (vin (d * 10 + i) 90 (by omega) (by omega)) dX9_moodsThatSay_23 ?_
        refine sk_top (nI (sa (d * 10 + i))) (nrd sa (d * 10 + i) (by omega)) ?_
        have hb_4 := hsa (d * 10 + i)
        refine lv_iload_n hx hb dX9_moodsThatSay_24 rfl (lv_at hl 4 rfl) ?_
        refine lv_icmp_ne (tgt := 35) hx hb dX9_moodsThatSay_25 (by decide) (fun c_5 => ?_) (fun c_5 => ?_)
        · skip
          refine lv_iinc (v := nI (i + 1)) (lv' := [(4, .int (nI (i + 1))), (3, .int mo), (0, .ref (q 10)), (1, .int (nI d)), (2, .int o)]) hx hb dX9_moodsThatSay_35 hl (k := 0) rfl (ninc i 1 (by decide)) (by decide) rfl (fun ls hl => ?_)
          refine lv_goto (tgt := 5) hx hb dX9_moodsThatSay_38 (by decide) ?_
          exact ih_lp_1 (i + 1) mo _ _ _ (by omega) (by omega) hP hD hS (lv_sub hl [0, 1, 2, 3, 4] rfl)
        · skip
          refine lv_iload_n hx hb dX9_moodsThatSay_28 rfl (lv_at hl 1 rfl) ?_
          refine lv_iconst (v := 1) hx hb dX9_moodsThatSay_29 (by decide) ?_
          refine lv_iload hx hb dX9_moodsThatSay_30 (lv_at hl 0 rfl) ?_
          refine lv_ishl hx hb dX9_moodsThatSay_32 ?_
          refine lv_topi (fun v_6 ev_6 => ?_)
          refine lv_ior hx hb dX9_moodsThatSay_33 ?_
          refine lv_topi (fun v_7 ev_7 => ?_)
          refine lv_istore_n (lv' := [(3, .int v_7), (4, .int (nI i)), (0, .ref (q 10)), (1, .int (nI d)), (2, .int o)]) hx hb dX9_moodsThatSay_34 rfl hl (by decide) rfl (fun ls hl => ?_)
          refine lv_iinc (v := nI (i + 1)) (lv' := [(4, .int (nI (i + 1))), (3, .int v_7), (0, .ref (q 10)), (1, .int (nI d)), (2, .int o)]) hx hb dX9_moodsThatSay_35 hl (k := 1) rfl (ninc i 1 (by decide)) (by decide) rfl (fun ls hl => ?_)
          refine lv_goto (tgt := 5) hx hb dX9_moodsThatSay_38 (by decide) ?_
          exact ih_lp_1 (i + 1) v_7 _ _ _ (by omega) (by omega) hP hD hS (lv_sub hl [0, 1, 2, 3, 4] rfl)
  exact lp_1 (10 - 0 + 1) 0 0 _ _ _ (Nat.lt_succ_self _) (by omega) hP hD hS (lv_sub hl [0, 1, 2, 3, 4] rfl)
theorem dX9_forget_0 : decode cX9_forget 0 = .ok (.aload_n 0, 1) := by decide +kernel
theorem dX9_forget_1 : decode cX9_forget 1 = .ok (.getfield 28, 3) := by decide +kernel
theorem dX9_forget_4 : decode cX9_forget 4 = .ok (.iconst (-1), 1) := by decide +kernel
theorem dX9_forget_5 : decode cX9_forget 5 = .ok (.invokestatic 31, 3) := by decide +kernel
theorem dX9_forget_8 : decode cX9_forget 8 = .ok (.return_, 1) := by decide +kernel
theorem w_2_75 : (Cond.fieldLink RX9 28 "SameKeeper$Table" "keys" "[I") ∈ wsL_law := sk_mem (ck_2 _ (List.mem_of_getElem? (i := 75) rfl)) rfl
theorem w_3_163 : (Cond.methodLink RX9 31 yJ7_fill_53178) ∈ wsL_law := sk_mem (ck_3 _ (List.mem_of_getElem? (i := 163) rfl)) rfl
theorem w_2_219 : (Cond.static yJ7_fill_53178) ∈ wsL_law := sk_mem (ck_2 _ (List.mem_of_getElem? (i := 219) rfl)) rfl
theorem w_1_15 : (Cond.initialized RJ7) ∈ wsL_law := sk_mem (ck_1 _ (List.mem_of_getElem? (i := 15) rfl)) rfl
theorem w_3_162 : (Cond.code yX9_forget cX9_forget 1 none) ∈ wsL_law := sk_mem (ck_3 _ (List.mem_of_getElem? (i := 162) rfl)) rfl
theorem dX9_nameDay_0 : decode cX9_nameDay 0 = .ok (.aload_n 0, 1) := by decide +kernel
theorem dX9_nameDay_1 : decode cX9_nameDay 1 = .ok (.sipush 10003, 3) := by decide +kernel
theorem dX9_nameDay_4 : decode cX9_nameDay 4 = .ok (.iload_n 2, 1) := by decide +kernel
theorem dX9_nameDay_5 : decode cX9_nameDay 5 = .ok (.i2l, 1) := by decide +kernel
theorem dX9_nameDay_6 : decode cX9_nameDay 6 = .ok (.invokevirtual 75, 3) := by decide +kernel
theorem dX9_nameDay_9 : decode cX9_nameDay 9 = .ok (.aload_n 0, 1) := by decide +kernel
theorem dX9_nameDay_10 : decode cX9_nameDay 10 = .ok (.sipush 10001, 3) := by decide +kernel
theorem dX9_nameDay_13 : decode cX9_nameDay 13 = .ok (.aload_n 1, 1) := by decide +kernel
theorem dX9_nameDay_14 : decode cX9_nameDay 14 = .ok (.getfield 58, 3) := by decide +kernel
theorem dX9_nameDay_17 : decode cX9_nameDay 17 = .ok (.iload_n 2, 1) := by decide +kernel
theorem dX9_nameDay_18 : decode cX9_nameDay 18 = .ok (.iaload, 1) := by decide +kernel
theorem dX9_nameDay_19 : decode cX9_nameDay 19 = .ok (.i2l, 1) := by decide +kernel
theorem dX9_nameDay_20 : decode cX9_nameDay 20 = .ok (.invokevirtual 75, 3) := by decide +kernel
theorem dX9_nameDay_23 : decode cX9_nameDay 23 = .ok (.aload_n 0, 1) := by decide +kernel
theorem dX9_nameDay_24 : decode cX9_nameDay 24 = .ok (.sipush 10002, 3) := by decide +kernel
theorem dX9_nameDay_27 : decode cX9_nameDay 27 = .ok (.aload_n 1, 1) := by decide +kernel
theorem dX9_nameDay_28 : decode cX9_nameDay 28 = .ok (.getfield 61, 3) := by decide +kernel
theorem dX9_nameDay_31 : decode cX9_nameDay 31 = .ok (.iload_n 2, 1) := by decide +kernel
theorem dX9_nameDay_32 : decode cX9_nameDay 32 = .ok (.iaload, 1) := by decide +kernel
theorem dX9_nameDay_33 : decode cX9_nameDay 33 = .ok (.i2l, 1) := by decide +kernel
theorem dX9_nameDay_34 : decode cX9_nameDay 34 = .ok (.invokevirtual 75, 3) := by decide +kernel
theorem dX9_nameDay_37 : decode cX9_nameDay 37 = .ok (.aload_n 0, 1) := by decide +kernel
theorem dX9_nameDay_38 : decode cX9_nameDay 38 = .ok (.sipush 10004, 3) := by decide +kernel
theorem dX9_nameDay_41 : decode cX9_nameDay 41 = .ok (.aload_n 1, 1) := by decide +kernel
theorem dX9_nameDay_42 : decode cX9_nameDay 42 = .ok (.getfield 49, 3) := by decide +kernel
theorem dX9_nameDay_45 : decode cX9_nameDay 45 = .ok (.i2l, 1) := by decide +kernel
theorem dX9_nameDay_46 : decode cX9_nameDay 46 = .ok (.invokevirtual 75, 3) := by decide +kernel
theorem dX9_nameDay_49 : decode cX9_nameDay 49 = .ok (.return_, 1) := by decide +kernel
theorem w_3_212 : (Cond.methodLink RX9 75 yX0_name) ∈ wsL_law := sk_mem (ck_3 _ (List.mem_of_getElem? (i := 212) rfl)) rfl
theorem w_3_213 : (Cond.instanceMethod yX0_name) ∈ wsL_law := sk_mem (ck_3 _ (List.mem_of_getElem? (i := 213) rfl)) rfl
theorem w_3_214 : (Cond.selects RX0 yX0_name yX0_name) ∈ wsL_law := sk_mem (ck_3 _ (List.mem_of_getElem? (i := 214) rfl)) rfl
theorem w_1_231 : (Cond.fieldLink RX9 58 "SameKeeper$State" "barge" "[I") ∈ wsL_law := sk_mem (ck_1 _ (List.mem_of_getElem? (i := 231) rfl)) rfl
theorem w_1_235 : (Cond.fieldLink RX9 61 "SameKeeper$State" "wet" "[I") ∈ wsL_law := sk_mem (ck_1 _ (List.mem_of_getElem? (i := 235) rfl)) rfl
theorem w_2_4 : (Cond.fieldLink RX9 49 "SameKeeper$State" "week" "I") ∈ wsL_law := sk_mem (ck_2 _ (List.mem_of_getElem? (i := 4) rfl)) rfl
theorem w_3_211 : (Cond.code yX9_nameDay cX9_nameDay 3 none) ∈ wsL_law := sk_mem (ck_3 _ (List.mem_of_getElem? (i := 211) rfl)) rfl
theorem dX9_fillWords_0 : decode cX9_fillWords 0 = .ok (.aload_n 1, 1) := by decide +kernel
theorem dX9_fillWords_1 : decode cX9_fillWords 1 = .ok (.getfield 37, 3) := by decide +kernel
theorem dX9_fillWords_4 : decode cX9_fillWords 4 = .ok (.astore_n 3, 1) := by decide +kernel
theorem dX9_fillWords_5 : decode cX9_fillWords 5 = .ok (.iconst 0, 1) := by decide +kernel
theorem dX9_fillWords_6 : decode cX9_fillWords 6 = .ok (.istore 4, 2) := by decide +kernel
theorem dX9_fillWords_8 : decode cX9_fillWords 8 = .ok (.iload 4, 2) := by decide +kernel
theorem dX9_fillWords_10 : decode cX9_fillWords 10 = .ok (.bipush 10, 2) := by decide +kernel
theorem dX9_fillWords_12 : decode cX9_fillWords 12 = .ok (.if_icmp .ge 79, 3) := by decide +kernel
theorem dX9_fillWords_91 : decode cX9_fillWords 91 = .ok (.return_, 1) := by decide +kernel
theorem dX9_fillWords_15 : decode cX9_fillWords 15 = .ok (.iload_n 2, 1) := by decide +kernel
theorem dX9_fillWords_16 : decode cX9_fillWords 16 = .ok (.bipush 10, 2) := by decide +kernel
theorem dX9_fillWords_18 : decode cX9_fillWords 18 = .ok (.imul, 1) := by decide +kernel
theorem dX9_fillWords_19 : decode cX9_fillWords 19 = .ok (.iload 4, 2) := by decide +kernel
theorem dX9_fillWords_21 : decode cX9_fillWords 21 = .ok (.iadd, 1) := by decide +kernel
theorem dX9_fillWords_22 : decode cX9_fillWords 22 = .ok (.istore 5, 2) := by decide +kernel
theorem dX9_fillWords_24 : decode cX9_fillWords 24 = .ok (.aload_n 3, 1) := by decide +kernel
theorem dX9_fillWords_25 : decode cX9_fillWords 25 = .ok (.sipush 10000, 3) := by decide +kernel
theorem dX9_fillWords_28 : decode cX9_fillWords 28 = .ok (.iload 4, 2) := by decide +kernel
theorem dX9_fillWords_30 : decode cX9_fillWords 30 = .ok (.i2l, 1) := by decide +kernel
theorem dX9_fillWords_31 : decode cX9_fillWords 31 = .ok (.invokevirtual 75, 3) := by decide +kernel
theorem dX9_fillWords_34 : decode cX9_fillWords 34 = .ok (.aload_n 0, 1) := by decide +kernel
theorem dX9_fillWords_35 : decode cX9_fillWords 35 = .ok (.getfield 9, 3) := by decide +kernel
theorem dX9_fillWords_38 : decode cX9_fillWords 38 = .ok (.iload 5, 2) := by decide +kernel
theorem dX9_fillWords_40 : decode cX9_fillWords 40 = .ok (.aload_n 3, 1) := by decide +kernel
theorem dX9_fillWords_41 : decode cX9_fillWords 41 = .ok (.aload_n 1, 1) := by decide +kernel
theorem dX9_fillWords_42 : decode cX9_fillWords 42 = .ok (.getfield 79, 3) := by decide +kernel
theorem dX9_fillWords_45 : decode cX9_fillWords 45 = .ok (.iconst 0, 1) := by decide +kernel
theorem dX9_fillWords_46 : decode cX9_fillWords 46 = .ok (.iaload, 1) := by decide +kernel
theorem dX9_fillWords_47 : decode cX9_fillWords 47 = .ok (.aload_n 1, 1) := by decide +kernel
theorem dX9_fillWords_48 : decode cX9_fillWords 48 = .ok (.getfield 82, 3) := by decide +kernel
theorem dX9_fillWords_51 : decode cX9_fillWords 51 = .ok (.iconst 0, 1) := by decide +kernel
theorem dX9_fillWords_52 : decode cX9_fillWords 52 = .ok (.iaload, 1) := by decide +kernel
theorem dX9_fillWords_53 : decode cX9_fillWords 53 = .ok (.invokevirtual 85, 3) := by decide +kernel
theorem dX9_fillWords_56 : decode cX9_fillWords 56 = .ok (.bipush 10, 2) := by decide +kernel
theorem dX9_fillWords_58 : decode cX9_fillWords 58 = .ok (.invokestatic 89, 3) := by decide +kernel
theorem dX9_fillWords_61 : decode cX9_fillWords 61 = .ok (.iastore, 1) := by decide +kernel
theorem dX9_fillWords_62 : decode cX9_fillWords 62 = .ok (.aload_n 0, 1) := by decide +kernel
theorem dX9_fillWords_63 : decode cX9_fillWords 63 = .ok (.getfield 24, 3) := by decide +kernel
theorem dX9_fillWords_66 : decode cX9_fillWords 66 = .ok (.iload 5, 2) := by decide +kernel
theorem dX9_fillWords_68 : decode cX9_fillWords 68 = .ok (.aload_n 3, 1) := by decide +kernel
theorem dX9_fillWords_69 : decode cX9_fillWords 69 = .ok (.aload_n 1, 1) := by decide +kernel
theorem dX9_fillWords_70 : decode cX9_fillWords 70 = .ok (.getfield 79, 3) := by decide +kernel
theorem dX9_fillWords_73 : decode cX9_fillWords 73 = .ok (.iconst 2, 1) := by decide +kernel
theorem dX9_fillWords_74 : decode cX9_fillWords 74 = .ok (.iaload, 1) := by decide +kernel
theorem dX9_fillWords_75 : decode cX9_fillWords 75 = .ok (.aload_n 1, 1) := by decide +kernel
theorem dX9_fillWords_76 : decode cX9_fillWords 76 = .ok (.getfield 82, 3) := by decide +kernel
theorem dX9_fillWords_79 : decode cX9_fillWords 79 = .ok (.iconst 2, 1) := by decide +kernel
theorem dX9_fillWords_80 : decode cX9_fillWords 80 = .ok (.iaload, 1) := by decide +kernel
theorem dX9_fillWords_81 : decode cX9_fillWords 81 = .ok (.invokevirtual 85, 3) := by decide +kernel
theorem dX9_fillWords_84 : decode cX9_fillWords 84 = .ok (.lastore, 1) := by decide +kernel
theorem dX9_fillWords_85 : decode cX9_fillWords 85 = .ok (.iinc 4 1, 3) := by decide +kernel
theorem dX9_fillWords_88 : decode cX9_fillWords 88 = .ok (.goto (-80), 3) := by decide +kernel
theorem w_1_176 : (Cond.fieldLink RX9 37 "SameKeeper$Lock" "code" "LSameKeeper$Code;") ∈ wsL_law := sk_mem (ck_1 _ (List.mem_of_getElem? (i := 176) rfl)) rfl
theorem w_1_185 : (Cond.fieldLink RX9 79 "SameKeeper$Lock" "from" "[I") ∈ wsL_law := sk_mem (ck_1 _ (List.mem_of_getElem? (i := 185) rfl)) rfl
theorem w_1_187 : (Cond.fieldLink RX9 82 "SameKeeper$Lock" "to" "[I") ∈ wsL_law := sk_mem (ck_1 _ (List.mem_of_getElem? (i := 187) rfl)) rfl
theorem w_3_220 : (Cond.methodLink RX9 85 yX0_run) ∈ wsL_law := sk_mem (ck_3 _ (List.mem_of_getElem? (i := 220) rfl)) rfl
theorem w_3_221 : (Cond.instanceMethod yX0_run) ∈ wsL_law := sk_mem (ck_3 _ (List.mem_of_getElem? (i := 221) rfl)) rfl
theorem w_3_222 : (Cond.selects RX0 yX0_run yX0_run) ∈ wsL_law := sk_mem (ck_3 _ (List.mem_of_getElem? (i := 222) rfl)) rfl
theorem w_4_7 : (Cond.methodLink RX9 89 yJ9_floorMod_1978a) ∈ wsL_law := sk_mem (ck_4 _ (List.mem_of_getElem? (i := 7) rfl)) rfl
theorem w_4_8 : (Cond.static yJ9_floorMod_1978a) ∈ wsL_law := sk_mem (ck_4 _ (List.mem_of_getElem? (i := 8) rfl)) rfl
theorem w_2_72 : (Cond.fieldLink RX9 24 "SameKeeper$Table" "wages" "[J") ∈ wsL_law := sk_mem (ck_2 _ (List.mem_of_getElem? (i := 72) rfl)) rfl
theorem w_3_219 : (Cond.code yX9_fillWords cX9_fillWords 6 none) ∈ wsL_law := sk_mem (ck_3 _ (List.mem_of_getElem? (i := 219) rfl)) rfl
theorem dX9_fillDeeds_0 : decode cX9_fillDeeds 0 = .ok (.aload_n 1, 1) := by decide +kernel
theorem dX9_fillDeeds_1 : decode cX9_fillDeeds 1 = .ok (.getfield 37, 3) := by decide +kernel
theorem dX9_fillDeeds_4 : decode cX9_fillDeeds 4 = .ok (.astore_n 3, 1) := by decide +kernel
theorem dX9_fillDeeds_5 : decode cX9_fillDeeds 5 = .ok (.aload_n 1, 1) := by decide +kernel
theorem dX9_fillDeeds_6 : decode cX9_fillDeeds 6 = .ok (.getfield 79, 3) := by decide +kernel
theorem dX9_fillDeeds_9 : decode cX9_fillDeeds 9 = .ok (.iconst 1, 1) := by decide +kernel
theorem dX9_fillDeeds_10 : decode cX9_fillDeeds 10 = .ok (.iaload, 1) := by decide +kernel
theorem dX9_fillDeeds_11 : decode cX9_fillDeeds 11 = .ok (.istore 4, 2) := by decide +kernel
theorem dX9_fillDeeds_13 : decode cX9_fillDeeds 13 = .ok (.aload_n 1, 1) := by decide +kernel
theorem dX9_fillDeeds_14 : decode cX9_fillDeeds 14 = .ok (.getfield 82, 3) := by decide +kernel
theorem dX9_fillDeeds_17 : decode cX9_fillDeeds 17 = .ok (.iconst 1, 1) := by decide +kernel
theorem dX9_fillDeeds_18 : decode cX9_fillDeeds 18 = .ok (.iaload, 1) := by decide +kernel
theorem dX9_fillDeeds_19 : decode cX9_fillDeeds 19 = .ok (.istore 5, 2) := by decide +kernel
theorem dX9_fillDeeds_21 : decode cX9_fillDeeds 21 = .ok (.iconst 0, 1) := by decide +kernel
theorem dX9_fillDeeds_22 : decode cX9_fillDeeds 22 = .ok (.istore 6, 2) := by decide +kernel
theorem dX9_fillDeeds_24 : decode cX9_fillDeeds 24 = .ok (.iload 6, 2) := by decide +kernel
theorem dX9_fillDeeds_26 : decode cX9_fillDeeds 26 = .ok (.bipush 10, 2) := by decide +kernel
theorem dX9_fillDeeds_28 : decode cX9_fillDeeds 28 = .ok (.if_icmp .ge 139, 3) := by decide +kernel
theorem dX9_fillDeeds_167 : decode cX9_fillDeeds 167 = .ok (.return_, 1) := by decide +kernel
theorem dX9_fillDeeds_31 : decode cX9_fillDeeds 31 = .ok (.iload_n 2, 1) := by decide +kernel
theorem dX9_fillDeeds_32 : decode cX9_fillDeeds 32 = .ok (.bipush 10, 2) := by decide +kernel
theorem dX9_fillDeeds_34 : decode cX9_fillDeeds 34 = .ok (.imul, 1) := by decide +kernel
theorem dX9_fillDeeds_35 : decode cX9_fillDeeds 35 = .ok (.iload 6, 2) := by decide +kernel
theorem dX9_fillDeeds_37 : decode cX9_fillDeeds 37 = .ok (.iadd, 1) := by decide +kernel
theorem dX9_fillDeeds_38 : decode cX9_fillDeeds 38 = .ok (.istore 7, 2) := by decide +kernel
theorem dX9_fillDeeds_40 : decode cX9_fillDeeds 40 = .ok (.aload_n 3, 1) := by decide +kernel
theorem dX9_fillDeeds_41 : decode cX9_fillDeeds 41 = .ok (.sipush 10000, 3) := by decide +kernel
theorem dX9_fillDeeds_44 : decode cX9_fillDeeds 44 = .ok (.iload 6, 2) := by decide +kernel
theorem dX9_fillDeeds_46 : decode cX9_fillDeeds 46 = .ok (.i2l, 1) := by decide +kernel
theorem dX9_fillDeeds_47 : decode cX9_fillDeeds 47 = .ok (.invokevirtual 75, 3) := by decide +kernel
theorem dX9_fillDeeds_50 : decode cX9_fillDeeds 50 = .ok (.aload_n 3, 1) := by decide +kernel
theorem dX9_fillDeeds_51 : decode cX9_fillDeeds 51 = .ok (.sipush 10006, 3) := by decide +kernel
theorem dX9_fillDeeds_54 : decode cX9_fillDeeds 54 = .ok (.lconst 1, 1) := by decide +kernel
theorem dX9_fillDeeds_55 : decode cX9_fillDeeds 55 = .ok (.invokevirtual 75, 3) := by decide +kernel
theorem dX9_fillDeeds_58 : decode cX9_fillDeeds 58 = .ok (.aload_n 3, 1) := by decide +kernel
theorem dX9_fillDeeds_59 : decode cX9_fillDeeds 59 = .ok (.sipush 10005, 3) := by decide +kernel
theorem dX9_fillDeeds_62 : decode cX9_fillDeeds 62 = .ok (.lconst 0, 1) := by decide +kernel
theorem dX9_fillDeeds_63 : decode cX9_fillDeeds 63 = .ok (.invokevirtual 75, 3) := by decide +kernel
theorem dX9_fillDeeds_66 : decode cX9_fillDeeds 66 = .ok (.aload_n 0, 1) := by decide +kernel
theorem dX9_fillDeeds_67 : decode cX9_fillDeeds 67 = .ok (.getfield 18, 3) := by decide +kernel
theorem dX9_fillDeeds_70 : decode cX9_fillDeeds 70 = .ok (.iload 7, 2) := by decide +kernel
theorem dX9_fillDeeds_72 : decode cX9_fillDeeds 72 = .ok (.aload_n 3, 1) := by decide +kernel
theorem dX9_fillDeeds_73 : decode cX9_fillDeeds 73 = .ok (.iload 4, 2) := by decide +kernel
theorem dX9_fillDeeds_75 : decode cX9_fillDeeds 75 = .ok (.iload 5, 2) := by decide +kernel
theorem dX9_fillDeeds_77 : decode cX9_fillDeeds 77 = .ok (.invokevirtual 85, 3) := by decide +kernel
theorem dX9_fillDeeds_80 : decode cX9_fillDeeds 80 = .ok (.bipush 10, 2) := by decide +kernel
theorem dX9_fillDeeds_82 : decode cX9_fillDeeds 82 = .ok (.invokestatic 89, 3) := by decide +kernel
theorem dX9_fillDeeds_85 : decode cX9_fillDeeds 85 = .ok (.iastore, 1) := by decide +kernel
theorem dX9_fillDeeds_86 : decode cX9_fillDeeds 86 = .ok (.aload_n 3, 1) := by decide +kernel
theorem dX9_fillDeeds_87 : decode cX9_fillDeeds 87 = .ok (.sipush 10006, 3) := by decide +kernel
theorem dX9_fillDeeds_90 : decode cX9_fillDeeds 90 = .ok (.lconst 0, 1) := by decide +kernel
theorem dX9_fillDeeds_91 : decode cX9_fillDeeds 91 = .ok (.invokevirtual 75, 3) := by decide +kernel
theorem dX9_fillDeeds_94 : decode cX9_fillDeeds 94 = .ok (.iconst 0, 1) := by decide +kernel
theorem dX9_fillDeeds_95 : decode cX9_fillDeeds 95 = .ok (.istore 8, 2) := by decide +kernel
theorem dX9_fillDeeds_97 : decode cX9_fillDeeds 97 = .ok (.iload 8, 2) := by decide +kernel
theorem dX9_fillDeeds_99 : decode cX9_fillDeeds 99 = .ok (.bipush 10, 2) := by decide +kernel
theorem dX9_fillDeeds_101 : decode cX9_fillDeeds 101 = .ok (.if_icmp .ge 45, 3) := by decide +kernel
theorem dX9_fillDeeds_146 : decode cX9_fillDeeds 146 = .ok (.aload_n 0, 1) := by decide +kernel
theorem dX9_fillDeeds_147 : decode cX9_fillDeeds 147 = .ok (.getfield 21, 3) := by decide +kernel
theorem dX9_fillDeeds_150 : decode cX9_fillDeeds 150 = .ok (.iload 7, 2) := by decide +kernel
theorem dX9_fillDeeds_152 : decode cX9_fillDeeds 152 = .ok (.aload_n 0, 1) := by decide +kernel
theorem dX9_fillDeeds_153 : decode cX9_fillDeeds 153 = .ok (.iload_n 2, 1) := by decide +kernel
theorem dX9_fillDeeds_154 : decode cX9_fillDeeds 154 = .ok (.iload 6, 2) := by decide +kernel
theorem dX9_fillDeeds_156 : decode cX9_fillDeeds 156 = .ok (.iconst 0, 1) := by decide +kernel
theorem dX9_fillDeeds_157 : decode cX9_fillDeeds 157 = .ok (.invokevirtual 95, 3) := by decide +kernel
theorem dX9_fillDeeds_160 : decode cX9_fillDeeds 160 = .ok (.iastore, 1) := by decide +kernel
theorem dX9_fillDeeds_161 : decode cX9_fillDeeds 161 = .ok (.iinc 6 1, 3) := by decide +kernel
theorem dX9_fillDeeds_164 : decode cX9_fillDeeds 164 = .ok (.goto (-140), 3) := by decide +kernel
theorem dX9_fillDeeds_104 : decode cX9_fillDeeds 104 = .ok (.aload_n 3, 1) := by decide +kernel
theorem dX9_fillDeeds_105 : decode cX9_fillDeeds 105 = .ok (.sipush 10005, 3) := by decide +kernel
theorem dX9_fillDeeds_108 : decode cX9_fillDeeds 108 = .ok (.iload 8, 2) := by decide +kernel
theorem dX9_fillDeeds_110 : decode cX9_fillDeeds 110 = .ok (.i2l, 1) := by decide +kernel
theorem dX9_fillDeeds_111 : decode cX9_fillDeeds 111 = .ok (.invokevirtual 75, 3) := by decide +kernel
theorem dX9_fillDeeds_114 : decode cX9_fillDeeds 114 = .ok (.aload_n 0, 1) := by decide +kernel
theorem dX9_fillDeeds_115 : decode cX9_fillDeeds 115 = .ok (.getfield 15, 3) := by decide +kernel
theorem dX9_fillDeeds_118 : decode cX9_fillDeeds 118 = .ok (.iload 7, 2) := by decide +kernel
theorem dX9_fillDeeds_120 : decode cX9_fillDeeds 120 = .ok (.bipush 10, 2) := by decide +kernel
theorem dX9_fillDeeds_122 : decode cX9_fillDeeds 122 = .ok (.imul, 1) := by decide +kernel
theorem dX9_fillDeeds_123 : decode cX9_fillDeeds 123 = .ok (.iload 8, 2) := by decide +kernel
theorem dX9_fillDeeds_125 : decode cX9_fillDeeds 125 = .ok (.iadd, 1) := by decide +kernel
theorem dX9_fillDeeds_126 : decode cX9_fillDeeds 126 = .ok (.aload_n 3, 1) := by decide +kernel
theorem dX9_fillDeeds_127 : decode cX9_fillDeeds 127 = .ok (.iload 4, 2) := by decide +kernel
theorem dX9_fillDeeds_129 : decode cX9_fillDeeds 129 = .ok (.iload 5, 2) := by decide +kernel
theorem dX9_fillDeeds_131 : decode cX9_fillDeeds 131 = .ok (.invokevirtual 85, 3) := by decide +kernel
theorem dX9_fillDeeds_134 : decode cX9_fillDeeds 134 = .ok (.bipush 10, 2) := by decide +kernel
theorem dX9_fillDeeds_136 : decode cX9_fillDeeds 136 = .ok (.invokestatic 89, 3) := by decide +kernel
theorem dX9_fillDeeds_139 : decode cX9_fillDeeds 139 = .ok (.iastore, 1) := by decide +kernel
theorem dX9_fillDeeds_140 : decode cX9_fillDeeds 140 = .ok (.iinc 8 1, 3) := by decide +kernel
theorem dX9_fillDeeds_143 : decode cX9_fillDeeds 143 = .ok (.goto (-46), 3) := by decide +kernel
theorem w_2_67 : (Cond.fieldLink RX9 18 "SameKeeper$Table" "alone" "[I") ∈ wsL_law := sk_mem (ck_2 _ (List.mem_of_getElem? (i := 67) rfl)) rfl
theorem w_2_70 : (Cond.fieldLink RX9 21 "SameKeeper$Table" "open" "[I") ∈ wsL_law := sk_mem (ck_2 _ (List.mem_of_getElem? (i := 70) rfl)) rfl
theorem w_4_17 : (Cond.methodLink RX9 95 yX9_moodsBehind) ∈ wsL_law := sk_mem (ck_4 _ (List.mem_of_getElem? (i := 17) rfl)) rfl
theorem w_4_18 : (Cond.instanceMethod yX9_moodsBehind) ∈ wsL_law := sk_mem (ck_4 _ (List.mem_of_getElem? (i := 18) rfl)) rfl
theorem w_4_19 : (Cond.selects RX9 yX9_moodsBehind yX9_moodsBehind) ∈ wsL_law := sk_mem (ck_4 _ (List.mem_of_getElem? (i := 19) rfl)) rfl
theorem w_1_12 : (Cond.initialized RX9) ∈ wsL_law := sk_mem (ck_1 _ (List.mem_of_getElem? (i := 12) rfl)) rfl
theorem w_4_16 : (Cond.code yX9_fillDeeds cX9_fillDeeds 9 none) ∈ wsL_law := sk_mem (ck_4 _ (List.mem_of_getElem? (i := 16) rfl)) rfl
theorem dX9_fit_18 : decode cX9_fit 18 = .ok (.istore_n 3, 1) := by decide +kernel
theorem dX9_fit_19 : decode cX9_fit 19 = .ok (.iconst 0, 1) := by decide +kernel
theorem dX9_fit_20 : decode cX9_fit 20 = .ok (.istore 4, 2) := by decide +kernel
theorem dX9_fit_22 : decode cX9_fit 22 = .ok (.iload 4, 2) := by decide +kernel
theorem dX9_fit_24 : decode cX9_fit 24 = .ok (.aload_n 2, 1) := by decide +kernel
theorem dX9_fit_25 : decode cX9_fit 25 = .ok (.getfield 55, 3) := by decide +kernel
theorem dX9_fit_28 : decode cX9_fit 28 = .ok (.if_icmp .ge 86, 3) := by decide +kernel
theorem dX9_fit_114 : decode cX9_fit 114 = .ok (.return_, 1) := by decide +kernel
theorem dX9_fit_31 : decode cX9_fit 31 = .ok (.iload 4, 2) := by decide +kernel
theorem dX9_fit_33 : decode cX9_fit 33 = .ok (.bipush 9, 2) := by decide +kernel
theorem dX9_fit_35 : decode cX9_fit 35 = .ok (.if_icmp .ge 79, 3) := by decide +kernel
theorem dX9_fit_38 : decode cX9_fit 38 = .ok (.iload_n 3, 1) := by decide +kernel
theorem dX9_fit_39 : decode cX9_fit 39 = .ok (.bipush 10, 2) := by decide +kernel
theorem dX9_fit_41 : decode cX9_fit 41 = .ok (.imul, 1) := by decide +kernel
theorem dX9_fit_42 : decode cX9_fit 42 = .ok (.aload_n 2, 1) := by decide +kernel
theorem dX9_fit_43 : decode cX9_fit 43 = .ok (.getfield 58, 3) := by decide +kernel
theorem dX9_fit_46 : decode cX9_fit 46 = .ok (.iload 4, 2) := by decide +kernel
theorem dX9_fit_48 : decode cX9_fit 48 = .ok (.iaload, 1) := by decide +kernel
theorem dX9_fit_49 : decode cX9_fit 49 = .ok (.iadd, 1) := by decide +kernel
theorem dX9_fit_50 : decode cX9_fit 50 = .ok (.bipush 10, 2) := by decide +kernel
theorem dX9_fit_52 : decode cX9_fit 52 = .ok (.imul, 1) := by decide +kernel
theorem dX9_fit_53 : decode cX9_fit 53 = .ok (.aload_n 2, 1) := by decide +kernel
theorem dX9_fit_54 : decode cX9_fit 54 = .ok (.getfield 61, 3) := by decide +kernel
theorem dX9_fit_57 : decode cX9_fit 57 = .ok (.iload 4, 2) := by decide +kernel
theorem dX9_fit_59 : decode cX9_fit 59 = .ok (.iaload, 1) := by decide +kernel
theorem dX9_fit_60 : decode cX9_fit 60 = .ok (.iadd, 1) := by decide +kernel
theorem dX9_fit_61 : decode cX9_fit 61 = .ok (.istore 5, 2) := by decide +kernel
theorem dX9_fit_63 : decode cX9_fit 63 = .ok (.aload_n 0, 1) := by decide +kernel
theorem dX9_fit_64 : decode cX9_fit 64 = .ok (.getfield 28, 3) := by decide +kernel
theorem dX9_fit_67 : decode cX9_fit 67 = .ok (.iload 4, 2) := by decide +kernel
theorem dX9_fit_69 : decode cX9_fit 69 = .ok (.iaload, 1) := by decide +kernel
theorem dX9_fit_70 : decode cX9_fit 70 = .ok (.iload 5, 2) := by decide +kernel
theorem dX9_fit_72 : decode cX9_fit 72 = .ok (.if_icmp .eq 36, 3) := by decide +kernel
theorem dX9_fit_108 : decode cX9_fit 108 = .ok (.iinc 4 1, 3) := by decide +kernel
theorem dX9_fit_111 : decode cX9_fit 111 = .ok (.goto (-89), 3) := by decide +kernel
theorem dX9_fit_75 : decode cX9_fit 75 = .ok (.aload_n 0, 1) := by decide +kernel
theorem dX9_fit_76 : decode cX9_fit 76 = .ok (.getfield 28, 3) := by decide +kernel
theorem dX9_fit_79 : decode cX9_fit 79 = .ok (.iload 4, 2) := by decide +kernel
theorem dX9_fit_81 : decode cX9_fit 81 = .ok (.iload 5, 2) := by decide +kernel
theorem dX9_fit_83 : decode cX9_fit 83 = .ok (.iastore, 1) := by decide +kernel
theorem dX9_fit_84 : decode cX9_fit 84 = .ok (.aload_n 1, 1) := by decide +kernel
theorem dX9_fit_85 : decode cX9_fit 85 = .ok (.getfield 37, 3) := by decide +kernel
theorem dX9_fit_88 : decode cX9_fit 88 = .ok (.aload_n 2, 1) := by decide +kernel
theorem dX9_fit_89 : decode cX9_fit 89 = .ok (.iload 4, 2) := by decide +kernel
theorem dX9_fit_91 : decode cX9_fit 91 = .ok (.invokestatic 64, 3) := by decide +kernel
theorem dX9_fit_94 : decode cX9_fit 94 = .ok (.aload_n 0, 1) := by decide +kernel
theorem dX9_fit_95 : decode cX9_fit 95 = .ok (.aload_n 1, 1) := by decide +kernel
theorem dX9_fit_96 : decode cX9_fit 96 = .ok (.iload 4, 2) := by decide +kernel
theorem dX9_fit_98 : decode cX9_fit 98 = .ok (.invokevirtual 68, 3) := by decide +kernel
theorem dX9_fit_101 : decode cX9_fit 101 = .ok (.aload_n 0, 1) := by decide +kernel
theorem dX9_fit_102 : decode cX9_fit 102 = .ok (.aload_n 1, 1) := by decide +kernel
theorem dX9_fit_103 : decode cX9_fit 103 = .ok (.iload 4, 2) := by decide +kernel
theorem dX9_fit_105 : decode cX9_fit 105 = .ok (.invokevirtual 72, 3) := by decide +kernel
theorem dX9_fit_0 : decode cX9_fit 0 = .ok (.aload_n 1, 1) := by decide +kernel
theorem dX9_fit_1 : decode cX9_fit 1 = .ok (.getfield 37, 3) := by decide +kernel
theorem dX9_fit_4 : decode cX9_fit 4 = .ok (.getfield 43, 3) := by decide +kernel
theorem dX9_fit_7 : decode cX9_fit 7 = .ok (.ifCond .eq 10, 3) := by decide +kernel
theorem dX9_fit_17 : decode cX9_fit 17 = .ok (.iconst 0, 1) := by decide +kernel
theorem dX9_fit_10 : decode cX9_fit 10 = .ok (.aload_n 2, 1) := by decide +kernel
theorem dX9_fit_11 : decode cX9_fit 11 = .ok (.getfield 49, 3) := by decide +kernel
theorem dX9_fit_14 : decode cX9_fit 14 = .ok (.goto 4, 3) := by decide +kernel
theorem w_2_0 : (Cond.fieldLink RX9 55 "SameKeeper$State" "days" "I") ∈ wsL_law := sk_mem (ck_2 _ (List.mem_of_getElem? (i := 0) rfl)) rfl
theorem w_3_209 : (Cond.methodLink RX9 64 yX9_nameDay) ∈ wsL_law := sk_mem (ck_3 _ (List.mem_of_getElem? (i := 209) rfl)) rfl
theorem w_3_210 : (Cond.static yX9_nameDay) ∈ wsL_law := sk_mem (ck_3 _ (List.mem_of_getElem? (i := 210) rfl)) rfl
theorem w_3_216 : (Cond.methodLink RX9 68 yX9_fillWords) ∈ wsL_law := sk_mem (ck_3 _ (List.mem_of_getElem? (i := 216) rfl)) rfl
theorem w_3_218 : (Cond.instanceMethod yX9_fillWords) ∈ wsL_law := sk_mem (ck_3 _ (List.mem_of_getElem? (i := 218) rfl)) rfl
theorem w_0_15 : (Cond.selects RX9 yX9_fillWords yX9_fillWords) ∈ wsL_law := sk_mem (ck_0 _ (List.mem_of_getElem? (i := 15) rfl)) rfl
theorem w_4_13 : (Cond.methodLink RX9 72 yX9_fillDeeds) ∈ wsL_law := sk_mem (ck_4 _ (List.mem_of_getElem? (i := 13) rfl)) rfl
theorem w_4_15 : (Cond.instanceMethod yX9_fillDeeds) ∈ wsL_law := sk_mem (ck_4 _ (List.mem_of_getElem? (i := 15) rfl)) rfl
theorem w_0_17 : (Cond.selects RX9 yX9_fillDeeds yX9_fillDeeds) ∈ wsL_law := sk_mem (ck_0 _ (List.mem_of_getElem? (i := 17) rfl)) rfl
theorem w_1_137 : (Cond.fieldLink RX9 43 "SameKeeper$Code" "mindsWeek" "Z") ∈ wsL_law := sk_mem (ck_1 _ (List.mem_of_getElem? (i := 137) rfl)) rfl
theorem w_3_208 : (Cond.code yX9_fit cX9_fit 6 none) ∈ wsL_law := sk_mem (ck_3 _ (List.mem_of_getElem? (i := 208) rfl)) rfl
theorem dJ6_numberOfTrailingZeros_0f7a4_0 : decode cJ6_numberOfTrailingZeros_0f7a4 0 = .ok (.iload_n 0, 1) := by decide +kernel
theorem dJ6_numberOfTrailingZeros_0f7a4_1 : decode cJ6_numberOfTrailingZeros_0f7a4 1 = .ok (.iconst (-1), 1) := by decide +kernel
theorem dJ6_numberOfTrailingZeros_0f7a4_2 : decode cJ6_numberOfTrailingZeros_0f7a4 2 = .ok (.ixor, 1) := by decide +kernel
theorem dJ6_numberOfTrailingZeros_0f7a4_3 : decode cJ6_numberOfTrailingZeros_0f7a4 3 = .ok (.iload_n 0, 1) := by decide +kernel
theorem dJ6_numberOfTrailingZeros_0f7a4_4 : decode cJ6_numberOfTrailingZeros_0f7a4 4 = .ok (.iconst 1, 1) := by decide +kernel
theorem dJ6_numberOfTrailingZeros_0f7a4_5 : decode cJ6_numberOfTrailingZeros_0f7a4 5 = .ok (.isub, 1) := by decide +kernel
theorem dJ6_numberOfTrailingZeros_0f7a4_6 : decode cJ6_numberOfTrailingZeros_0f7a4 6 = .ok (.iand, 1) := by decide +kernel
theorem dJ6_numberOfTrailingZeros_0f7a4_7 : decode cJ6_numberOfTrailingZeros_0f7a4 7 = .ok (.istore_n 0, 1) := by decide +kernel
theorem dJ6_numberOfTrailingZeros_0f7a4_8 : decode cJ6_numberOfTrailingZeros_0f7a4 8 = .ok (.iload_n 0, 1) := by decide +kernel
theorem dJ6_numberOfTrailingZeros_0f7a4_9 : decode cJ6_numberOfTrailingZeros_0f7a4 9 = .ok (.ifCond .gt 8, 3) := by decide +kernel
theorem dJ6_numberOfTrailingZeros_0f7a4_17 : decode cJ6_numberOfTrailingZeros_0f7a4 17 = .ok (.iconst 1, 1) := by decide +kernel
theorem dJ6_numberOfTrailingZeros_0f7a4_18 : decode cJ6_numberOfTrailingZeros_0f7a4 18 = .ok (.istore_n 1, 1) := by decide +kernel
theorem dJ6_numberOfTrailingZeros_0f7a4_19 : decode cJ6_numberOfTrailingZeros_0f7a4 19 = .ok (.iload_n 0, 1) := by decide +kernel
theorem dJ6_numberOfTrailingZeros_0f7a4_20 : decode cJ6_numberOfTrailingZeros_0f7a4 20 = .ok (.ldc_w 264, 3) := by decide +kernel
theorem dJ6_numberOfTrailingZeros_0f7a4_23 : decode cJ6_numberOfTrailingZeros_0f7a4 23 = .ok (.if_icmp .le 11, 3) := by decide +kernel
theorem dJ6_numberOfTrailingZeros_0f7a4_34 : decode cJ6_numberOfTrailingZeros_0f7a4 34 = .ok (.iload_n 0, 1) := by decide +kernel
theorem dJ6_numberOfTrailingZeros_0f7a4_35 : decode cJ6_numberOfTrailingZeros_0f7a4 35 = .ok (.sipush 256, 3) := by decide +kernel
theorem dJ6_numberOfTrailingZeros_0f7a4_38 : decode cJ6_numberOfTrailingZeros_0f7a4 38 = .ok (.if_icmp .le 11, 3) := by decide +kernel
theorem dJ6_numberOfTrailingZeros_0f7a4_49 : decode cJ6_numberOfTrailingZeros_0f7a4 49 = .ok (.iload_n 0, 1) := by decide +kernel
theorem dJ6_numberOfTrailingZeros_0f7a4_50 : decode cJ6_numberOfTrailingZeros_0f7a4 50 = .ok (.bipush 16, 2) := by decide +kernel
theorem dJ6_numberOfTrailingZeros_0f7a4_52 : decode cJ6_numberOfTrailingZeros_0f7a4 52 = .ok (.if_icmp .le 10, 3) := by decide +kernel
theorem dJ6_numberOfTrailingZeros_0f7a4_62 : decode cJ6_numberOfTrailingZeros_0f7a4 62 = .ok (.iload_n 0, 1) := by decide +kernel
theorem dJ6_numberOfTrailingZeros_0f7a4_63 : decode cJ6_numberOfTrailingZeros_0f7a4 63 = .ok (.iconst 4, 1) := by decide +kernel
theorem dJ6_numberOfTrailingZeros_0f7a4_64 : decode cJ6_numberOfTrailingZeros_0f7a4 64 = .ok (.if_icmp .le 10, 3) := by decide +kernel
theorem dJ6_numberOfTrailingZeros_0f7a4_74 : decode cJ6_numberOfTrailingZeros_0f7a4 74 = .ok (.iload_n 1, 1) := by decide +kernel
theorem dJ6_numberOfTrailingZeros_0f7a4_75 : decode cJ6_numberOfTrailingZeros_0f7a4 75 = .ok (.iload_n 0, 1) := by decide +kernel
theorem dJ6_numberOfTrailingZeros_0f7a4_76 : decode cJ6_numberOfTrailingZeros_0f7a4 76 = .ok (.iconst 1, 1) := by decide +kernel
theorem dJ6_numberOfTrailingZeros_0f7a4_77 : decode cJ6_numberOfTrailingZeros_0f7a4 77 = .ok (.iushr, 1) := by decide +kernel
theorem dJ6_numberOfTrailingZeros_0f7a4_78 : decode cJ6_numberOfTrailingZeros_0f7a4 78 = .ok (.iadd, 1) := by decide +kernel
theorem dJ6_numberOfTrailingZeros_0f7a4_79 : decode cJ6_numberOfTrailingZeros_0f7a4 79 = .ok (.ireturn, 1) := by decide +kernel
theorem dJ6_numberOfTrailingZeros_0f7a4_67 : decode cJ6_numberOfTrailingZeros_0f7a4 67 = .ok (.iinc 1 2, 3) := by decide +kernel
theorem dJ6_numberOfTrailingZeros_0f7a4_70 : decode cJ6_numberOfTrailingZeros_0f7a4 70 = .ok (.iload_n 0, 1) := by decide +kernel
theorem dJ6_numberOfTrailingZeros_0f7a4_71 : decode cJ6_numberOfTrailingZeros_0f7a4 71 = .ok (.iconst 2, 1) := by decide +kernel
theorem dJ6_numberOfTrailingZeros_0f7a4_72 : decode cJ6_numberOfTrailingZeros_0f7a4 72 = .ok (.iushr, 1) := by decide +kernel
theorem dJ6_numberOfTrailingZeros_0f7a4_73 : decode cJ6_numberOfTrailingZeros_0f7a4 73 = .ok (.istore_n 0, 1) := by decide +kernel
theorem dJ6_numberOfTrailingZeros_0f7a4_55 : decode cJ6_numberOfTrailingZeros_0f7a4 55 = .ok (.iinc 1 4, 3) := by decide +kernel
theorem dJ6_numberOfTrailingZeros_0f7a4_58 : decode cJ6_numberOfTrailingZeros_0f7a4 58 = .ok (.iload_n 0, 1) := by decide +kernel
theorem dJ6_numberOfTrailingZeros_0f7a4_59 : decode cJ6_numberOfTrailingZeros_0f7a4 59 = .ok (.iconst 4, 1) := by decide +kernel
theorem dJ6_numberOfTrailingZeros_0f7a4_60 : decode cJ6_numberOfTrailingZeros_0f7a4 60 = .ok (.iushr, 1) := by decide +kernel
theorem dJ6_numberOfTrailingZeros_0f7a4_61 : decode cJ6_numberOfTrailingZeros_0f7a4 61 = .ok (.istore_n 0, 1) := by decide +kernel
theorem dJ6_numberOfTrailingZeros_0f7a4_41 : decode cJ6_numberOfTrailingZeros_0f7a4 41 = .ok (.iinc 1 8, 3) := by decide +kernel
theorem dJ6_numberOfTrailingZeros_0f7a4_44 : decode cJ6_numberOfTrailingZeros_0f7a4 44 = .ok (.iload_n 0, 1) := by decide +kernel
theorem dJ6_numberOfTrailingZeros_0f7a4_45 : decode cJ6_numberOfTrailingZeros_0f7a4 45 = .ok (.bipush 8, 2) := by decide +kernel
theorem dJ6_numberOfTrailingZeros_0f7a4_47 : decode cJ6_numberOfTrailingZeros_0f7a4 47 = .ok (.iushr, 1) := by decide +kernel
theorem dJ6_numberOfTrailingZeros_0f7a4_48 : decode cJ6_numberOfTrailingZeros_0f7a4 48 = .ok (.istore_n 0, 1) := by decide +kernel
theorem dJ6_numberOfTrailingZeros_0f7a4_26 : decode cJ6_numberOfTrailingZeros_0f7a4 26 = .ok (.iinc 1 16, 3) := by decide +kernel
theorem dJ6_numberOfTrailingZeros_0f7a4_29 : decode cJ6_numberOfTrailingZeros_0f7a4 29 = .ok (.iload_n 0, 1) := by decide +kernel
theorem dJ6_numberOfTrailingZeros_0f7a4_30 : decode cJ6_numberOfTrailingZeros_0f7a4 30 = .ok (.bipush 16, 2) := by decide +kernel
theorem dJ6_numberOfTrailingZeros_0f7a4_32 : decode cJ6_numberOfTrailingZeros_0f7a4 32 = .ok (.iushr, 1) := by decide +kernel
theorem dJ6_numberOfTrailingZeros_0f7a4_33 : decode cJ6_numberOfTrailingZeros_0f7a4 33 = .ok (.istore_n 0, 1) := by decide +kernel
theorem dJ6_numberOfTrailingZeros_0f7a4_12 : decode cJ6_numberOfTrailingZeros_0f7a4 12 = .ok (.iload_n 0, 1) := by decide +kernel
theorem dJ6_numberOfTrailingZeros_0f7a4_13 : decode cJ6_numberOfTrailingZeros_0f7a4 13 = .ok (.bipush 32, 2) := by decide +kernel
theorem dJ6_numberOfTrailingZeros_0f7a4_15 : decode cJ6_numberOfTrailingZeros_0f7a4 15 = .ok (.iand, 1) := by decide +kernel
theorem dJ6_numberOfTrailingZeros_0f7a4_16 : decode cJ6_numberOfTrailingZeros_0f7a4 16 = .ok (.ireturn, 1) := by decide +kernel
theorem w_4_119 : (Cond.constant RJ6 264 (65536)) ∈ wsL_law := sk_mem (ck_4 _ (List.mem_of_getElem? (i := 119) rfl)) rfl
theorem w_4_118 : (Cond.code yJ6_numberOfTrailingZeros_0f7a4 cJ6_numberOfTrailingZeros_0f7a4 2 (some .int)) ∈ wsL_law := sk_mem (ck_4 _ (List.mem_of_getElem? (i := 118) rfl)) rfl
set_option maxHeartbeats 4000000 in
set_option maxRecDepth 100000 in
theorem c_ntz (l : Launch) (D : va_G) (cI cJ cC cZ cS : ClassId) (o : Int32)  : skM l yJ6_numberOfTrailingZeros_0f7a4 cJ6_numberOfTrailingZeros_0f7a4 2 (some .int) 0 0 0 0 D (skT cI cJ cC cZ cS) [.int o] [] (skI D (skT cI cJ cC cZ cS) (fun (r : Int32) (u : va_W) => ∃ (v : Nat), v ≤ 64 ∧ r = nI v ∧ u = [])) := by
  refine skM_of (by decide +kernel) (Nat.le_of_ble_eq_true rfl) ?_
  intro p e s m below meth c A ls E hP hD hl
  obtain ⟨hx, hb, hr, hml, hlocks, hin, hown, hts, hK, hA⟩ := E
  have hown : s.vm.findClass RJ6 = some m.cls := hown
  have hS : va_S A s.heap s.heap [] := va_S.rf
  have hl : lv_has ls 2 [(0, .int o)] := hl
  refine lv_iload_n hx hb dJ6_numberOfTrailingZeros_0f7a4_0 rfl (lv_at hl 0 rfl) ?_
  refine lv_iconst (v := (-1)) hx hb dJ6_numberOfTrailingZeros_0f7a4_1 (by decide) ?_
  refine lv_ixor hx hb dJ6_numberOfTrailingZeros_0f7a4_2 ?_
  refine lv_topi (fun v_1 ev_1 => ?_)
  refine lv_iload_n hx hb dJ6_numberOfTrailingZeros_0f7a4_3 rfl (lv_at hl 0 rfl) ?_
  refine lv_iconst (v := 1) hx hb dJ6_numberOfTrailingZeros_0f7a4_4 (by decide) ?_
  refine lv_isub hx hb dJ6_numberOfTrailingZeros_0f7a4_5 ?_
  refine lv_topi (fun v_2 ev_2 => ?_)
  refine lv_iand hx hb dJ6_numberOfTrailingZeros_0f7a4_6 ?_
  refine lv_topi (fun v_3 ev_3 => ?_)
  refine lv_istore_n (lv' := [(0, .int v_3)]) hx hb dJ6_numberOfTrailingZeros_0f7a4_7 rfl hl (by decide) rfl (fun ls hl => ?_)
  refine lv_iload_n hx hb dJ6_numberOfTrailingZeros_0f7a4_8 rfl (lv_at hl 0 rfl) ?_
  refine lv_if_gt (tgt := 17) hx hb dJ6_numberOfTrailingZeros_0f7a4_9 (by decide) (fun c_4 => ?_) (fun c_4 => ?_)
  · obtain ⟨k_5, hk_5, h1k_5, rfl⟩ := nofp v_3 c_4
    refine lv_iconst (v := 1) hx hb dJ6_numberOfTrailingZeros_0f7a4_17 (by decide) ?_
    refine lv_istore_n (lv' := [(1, .int 1), (0, .int (nI k_5))]) hx hb dJ6_numberOfTrailingZeros_0f7a4_18 rfl hl (by decide) rfl (fun ls hl => ?_)
    refine lv_iload_n hx hb dJ6_numberOfTrailingZeros_0f7a4_19 rfl (lv_at hl 1 rfl) ?_
    refine lv_ldcw (v := 65536) hx hb hown (hts _ w_4_119) dJ6_numberOfTrailingZeros_0f7a4_20 ?_
    refine lv_icmp_le (tgt := 34) hx hb dJ6_numberOfTrailingZeros_0f7a4_23 (by decide) (fun c_6 => ?_) (fun c_6 => ?_)
    · have c_6 : k_5 ≤ 65536 := (nle k_5 65536 (by omega) (by omega)).mp c_6
      refine lv_iload_n hx hb dJ6_numberOfTrailingZeros_0f7a4_34 rfl (lv_at hl 1 rfl) ?_
      refine lv_sipush (v := 256) hx hb dJ6_numberOfTrailingZeros_0f7a4_35 (by decide) ?_
      refine lv_icmp_le (tgt := 49) hx hb dJ6_numberOfTrailingZeros_0f7a4_38 (by decide) (fun c_7 => ?_) (fun c_7 => ?_)
      · have c_7 : k_5 ≤ 256 := (nle k_5 256 (by omega) (by omega)).mp c_7
        refine lv_iload_n hx hb dJ6_numberOfTrailingZeros_0f7a4_49 rfl (lv_at hl 1 rfl) ?_
        refine lv_bipush (v := 16) hx hb dJ6_numberOfTrailingZeros_0f7a4_50 (by decide) ?_
        refine lv_icmp_le (tgt := 62) hx hb dJ6_numberOfTrailingZeros_0f7a4_52 (by decide) (fun c_8 => ?_) (fun c_8 => ?_)
        · have c_8 : k_5 ≤ 16 := (nle k_5 16 (by omega) (by omega)).mp c_8
          refine lv_iload_n hx hb dJ6_numberOfTrailingZeros_0f7a4_62 rfl (lv_at hl 1 rfl) ?_
          refine lv_iconst (v := 4) hx hb dJ6_numberOfTrailingZeros_0f7a4_63 (by decide) ?_
          refine lv_icmp_le (tgt := 74) hx hb dJ6_numberOfTrailingZeros_0f7a4_64 (by decide) (fun c_9 => ?_) (fun c_9 => ?_)
          · have c_9 : k_5 ≤ 4 := (nle k_5 4 (by omega) (by omega)).mp c_9
            refine lv_iload_n hx hb dJ6_numberOfTrailingZeros_0f7a4_74 rfl (lv_at hl 0 rfl) ?_
            refine lv_iload_n hx hb dJ6_numberOfTrailingZeros_0f7a4_75 rfl (lv_at hl 1 rfl) ?_
            refine lv_iconst (v := 1) hx hb dJ6_numberOfTrailingZeros_0f7a4_76 (by decide) ?_
            refine lv_iushr (v := nI (k_5 / 2)) hx hb dJ6_numberOfTrailingZeros_0f7a4_77 (nushr k_5 1 (by omega) (by decide) 2 rfl) ?_
            refine lv_iadd hx hb dJ6_numberOfTrailingZeros_0f7a4_78 ?_
            refine sk_top (nI (1 + (k_5 / 2))) (nI_add 1 (k_5 / 2)) ?_
            exact sk_iret hx hb hr rfl hlocks hK hP hD hS (⟨1 + (k_5 / 2), by omega, rfl, rfl⟩) (Nat.le_of_ble_eq_true rfl) (Nat.le_of_ble_eq_true rfl) dJ6_numberOfTrailingZeros_0f7a4_79
          · have c_9 : ¬ (k_5 ≤ 4) := fun h => c_9 ((nle k_5 4 (by omega) (by omega)).mpr h)
            refine lv_iinc (v := 3) (lv' := [(1, .int 3), (0, .int (nI k_5))]) hx hb dJ6_numberOfTrailingZeros_0f7a4_67 hl (k := 0) rfl (by decide) (by decide) rfl (fun ls hl => ?_)
            refine lv_iload_n hx hb dJ6_numberOfTrailingZeros_0f7a4_70 rfl (lv_at hl 1 rfl) ?_
            refine lv_iconst (v := 2) hx hb dJ6_numberOfTrailingZeros_0f7a4_71 (by decide) ?_
            refine lv_iushr (v := nI (k_5 / 4)) hx hb dJ6_numberOfTrailingZeros_0f7a4_72 (nushr k_5 2 (by omega) (by decide) 4 rfl) ?_
            refine lv_istore_n (lv' := [(0, .int (nI (k_5 / 4))), (1, .int 3)]) hx hb dJ6_numberOfTrailingZeros_0f7a4_73 rfl hl (by decide) rfl (fun ls hl => ?_)
            refine lv_iload_n hx hb dJ6_numberOfTrailingZeros_0f7a4_74 rfl (lv_at hl 1 rfl) ?_
            refine lv_iload_n hx hb dJ6_numberOfTrailingZeros_0f7a4_75 rfl (lv_at hl 0 rfl) ?_
            refine lv_iconst (v := 1) hx hb dJ6_numberOfTrailingZeros_0f7a4_76 (by decide) ?_
            refine lv_iushr (v := nI ((k_5 / 4) / 2)) hx hb dJ6_numberOfTrailingZeros_0f7a4_77 (nushr (k_5 / 4) 1 (by omega) (by decide) 2 rfl) ?_
            refine lv_iadd hx hb dJ6_numberOfTrailingZeros_0f7a4_78 ?_
            refine sk_top (nI (3 + ((k_5 / 4) / 2))) (nI_add 3 ((k_5 / 4) / 2)) ?_
            exact sk_iret hx hb hr rfl hlocks hK hP hD hS (⟨3 + ((k_5 / 4) / 2), by omega, rfl, rfl⟩) (Nat.le_of_ble_eq_true rfl) (Nat.le_of_ble_eq_true rfl) dJ6_numberOfTrailingZeros_0f7a4_79
        · have c_8 : ¬ (k_5 ≤ 16) := fun h => c_8 ((nle k_5 16 (by omega) (by omega)).mpr h)
          refine lv_iinc (v := 5) (lv' := [(1, .int 5), (0, .int (nI k_5))]) hx hb dJ6_numberOfTrailingZeros_0f7a4_55 hl (k := 0) rfl (by decide) (by decide) rfl (fun ls hl => ?_)
          refine lv_iload_n hx hb dJ6_numberOfTrailingZeros_0f7a4_58 rfl (lv_at hl 1 rfl) ?_
          refine lv_iconst (v := 4) hx hb dJ6_numberOfTrailingZeros_0f7a4_59 (by decide) ?_
          refine lv_iushr (v := nI (k_5 / 16)) hx hb dJ6_numberOfTrailingZeros_0f7a4_60 (nushr k_5 4 (by omega) (by decide) 16 rfl) ?_
          refine lv_istore_n (lv' := [(0, .int (nI (k_5 / 16))), (1, .int 5)]) hx hb dJ6_numberOfTrailingZeros_0f7a4_61 rfl hl (by decide) rfl (fun ls hl => ?_)
          refine lv_iload_n hx hb dJ6_numberOfTrailingZeros_0f7a4_62 rfl (lv_at hl 0 rfl) ?_
          refine lv_iconst (v := 4) hx hb dJ6_numberOfTrailingZeros_0f7a4_63 (by decide) ?_
          refine lv_icmp_le (tgt := 74) hx hb dJ6_numberOfTrailingZeros_0f7a4_64 (by decide) (fun c_10 => ?_) (fun c_10 => ?_)
          · have c_10 : k_5 / 16 ≤ 4 := (nle (k_5 / 16) 4 (by omega) (by omega)).mp c_10
            refine lv_iload_n hx hb dJ6_numberOfTrailingZeros_0f7a4_74 rfl (lv_at hl 1 rfl) ?_
            refine lv_iload_n hx hb dJ6_numberOfTrailingZeros_0f7a4_75 rfl (lv_at hl 0 rfl) ?_
            refine lv_iconst (v := 1) hx hb dJ6_numberOfTrailingZeros_0f7a4_76 (by decide) ?_
            refine lv_iushr (v := nI ((k_5 / 16) / 2)) hx hb dJ6_numberOfTrailingZeros_0f7a4_77 (nushr (k_5 / 16) 1 (by omega) (by decide) 2 rfl) ?_
            refine lv_iadd hx hb dJ6_numberOfTrailingZeros_0f7a4_78 ?_
            refine sk_top (nI (5 + ((k_5 / 16) / 2))) (nI_add 5 ((k_5 / 16) / 2)) ?_
            exact sk_iret hx hb hr rfl hlocks hK hP hD hS (⟨5 + ((k_5 / 16) / 2), by omega, rfl, rfl⟩) (Nat.le_of_ble_eq_true rfl) (Nat.le_of_ble_eq_true rfl) dJ6_numberOfTrailingZeros_0f7a4_79
          · have c_10 : ¬ (k_5 / 16 ≤ 4) := fun h => c_10 ((nle (k_5 / 16) 4 (by omega) (by omega)).mpr h)
            refine lv_iinc (v := 7) (lv' := [(1, .int 7), (0, .int (nI (k_5 / 16)))]) hx hb dJ6_numberOfTrailingZeros_0f7a4_67 hl (k := 1) rfl (by decide) (by decide) rfl (fun ls hl => ?_)
            refine lv_iload_n hx hb dJ6_numberOfTrailingZeros_0f7a4_70 rfl (lv_at hl 1 rfl) ?_
            refine lv_iconst (v := 2) hx hb dJ6_numberOfTrailingZeros_0f7a4_71 (by decide) ?_
            refine lv_iushr (v := nI ((k_5 / 16) / 4)) hx hb dJ6_numberOfTrailingZeros_0f7a4_72 (nushr (k_5 / 16) 2 (by omega) (by decide) 4 rfl) ?_
            refine lv_istore_n (lv' := [(0, .int (nI ((k_5 / 16) / 4))), (1, .int 7)]) hx hb dJ6_numberOfTrailingZeros_0f7a4_73 rfl hl (by decide) rfl (fun ls hl => ?_)
            refine lv_iload_n hx hb dJ6_numberOfTrailingZeros_0f7a4_74 rfl (lv_at hl 1 rfl) ?_
            refine lv_iload_n hx hb dJ6_numberOfTrailingZeros_0f7a4_75 rfl (lv_at hl 0 rfl) ?_
            refine lv_iconst (v := 1) hx hb dJ6_numberOfTrailingZeros_0f7a4_76 (by decide) ?_
            refine lv_iushr (v := nI (((k_5 / 16) / 4) / 2)) hx hb dJ6_numberOfTrailingZeros_0f7a4_77 (nushr ((k_5 / 16) / 4) 1 (by omega) (by decide) 2 rfl) ?_
            refine lv_iadd hx hb dJ6_numberOfTrailingZeros_0f7a4_78 ?_
            refine sk_top (nI (7 + (((k_5 / 16) / 4) / 2))) (nI_add 7 (((k_5 / 16) / 4) / 2)) ?_
            exact sk_iret hx hb hr rfl hlocks hK hP hD hS (⟨7 + (((k_5 / 16) / 4) / 2), by omega, rfl, rfl⟩) (Nat.le_of_ble_eq_true rfl) (Nat.le_of_ble_eq_true rfl) dJ6_numberOfTrailingZeros_0f7a4_79
      · have c_7 : ¬ (k_5 ≤ 256) := fun h => c_7 ((nle k_5 256 (by omega) (by omega)).mpr h)
        refine lv_iinc (v := 9) (lv' := [(1, .int 9), (0, .int (nI k_5))]) hx hb dJ6_numberOfTrailingZeros_0f7a4_41 hl (k := 0) rfl (by decide) (by decide) rfl (fun ls hl => ?_)
        refine lv_iload_n hx hb dJ6_numberOfTrailingZeros_0f7a4_44 rfl (lv_at hl 1 rfl) ?_
        refine lv_bipush (v := 8) hx hb dJ6_numberOfTrailingZeros_0f7a4_45 (by decide) ?_
        refine lv_iushr (v := nI (k_5 / 256)) hx hb dJ6_numberOfTrailingZeros_0f7a4_47 (nushr k_5 8 (by omega) (by decide) 256 rfl) ?_
        refine lv_istore_n (lv' := [(0, .int (nI (k_5 / 256))), (1, .int 9)]) hx hb dJ6_numberOfTrailingZeros_0f7a4_48 rfl hl (by decide) rfl (fun ls hl => ?_)
        refine lv_iload_n hx hb dJ6_numberOfTrailingZeros_0f7a4_49 rfl (lv_at hl 0 rfl) ?_
        refine lv_bipush (v := 16) hx hb dJ6_numberOfTrailingZeros_0f7a4_50 (by decide) ?_
        refine lv_icmp_le (tgt := 62) hx hb dJ6_numberOfTrailingZeros_0f7a4_52 (by decide) (fun c_11 => ?_) (fun c_11 => ?_)
        · have c_11 : k_5 / 256 ≤ 16 := (nle (k_5 / 256) 16 (by omega) (by omega)).mp c_11
          refine lv_iload_n hx hb dJ6_numberOfTrailingZeros_0f7a4_62 rfl (lv_at hl 0 rfl) ?_
          refine lv_iconst (v := 4) hx hb dJ6_numberOfTrailingZeros_0f7a4_63 (by decide) ?_
          refine lv_icmp_le (tgt := 74) hx hb dJ6_numberOfTrailingZeros_0f7a4_64 (by decide) (fun c_12 => ?_) (fun c_12 => ?_)
          · have c_12 : k_5 / 256 ≤ 4 := (nle (k_5 / 256) 4 (by omega) (by omega)).mp c_12
            refine lv_iload_n hx hb dJ6_numberOfTrailingZeros_0f7a4_74 rfl (lv_at hl 1 rfl) ?_
            refine lv_iload_n hx hb dJ6_numberOfTrailingZeros_0f7a4_75 rfl (lv_at hl 0 rfl) ?_
            refine lv_iconst (v := 1) hx hb dJ6_numberOfTrailingZeros_0f7a4_76 (by decide) ?_
            refine lv_iushr (v := nI ((k_5 / 256) / 2)) hx hb dJ6_numberOfTrailingZeros_0f7a4_77 (nushr (k_5 / 256) 1 (by omega) (by decide) 2 rfl) ?_
            refine lv_iadd hx hb dJ6_numberOfTrailingZeros_0f7a4_78 ?_
            refine sk_top (nI (9 + ((k_5 / 256) / 2))) (nI_add 9 ((k_5 / 256) / 2)) ?_
            exact sk_iret hx hb hr rfl hlocks hK hP hD hS (⟨9 + ((k_5 / 256) / 2), by omega, rfl, rfl⟩) (Nat.le_of_ble_eq_true rfl) (Nat.le_of_ble_eq_true rfl) dJ6_numberOfTrailingZeros_0f7a4_79
          · have c_12 : ¬ (k_5 / 256 ≤ 4) := fun h => c_12 ((nle (k_5 / 256) 4 (by omega) (by omega)).mpr h)
            refine lv_iinc (v := 11) (lv' := [(1, .int 11), (0, .int (nI (k_5 / 256)))]) hx hb dJ6_numberOfTrailingZeros_0f7a4_67 hl (k := 1) rfl (by decide) (by decide) rfl (fun ls hl => ?_)
            refine lv_iload_n hx hb dJ6_numberOfTrailingZeros_0f7a4_70 rfl (lv_at hl 1 rfl) ?_
            refine lv_iconst (v := 2) hx hb dJ6_numberOfTrailingZeros_0f7a4_71 (by decide) ?_
            refine lv_iushr (v := nI ((k_5 / 256) / 4)) hx hb dJ6_numberOfTrailingZeros_0f7a4_72 (nushr (k_5 / 256) 2 (by omega) (by decide) 4 rfl) ?_
            refine lv_istore_n (lv' := [(0, .int (nI ((k_5 / 256) / 4))), (1, .int 11)]) hx hb dJ6_numberOfTrailingZeros_0f7a4_73 rfl hl (by decide) rfl (fun ls hl => ?_)
            refine lv_iload_n hx hb dJ6_numberOfTrailingZeros_0f7a4_74 rfl (lv_at hl 1 rfl) ?_
            refine lv_iload_n hx hb dJ6_numberOfTrailingZeros_0f7a4_75 rfl (lv_at hl 0 rfl) ?_
            refine lv_iconst (v := 1) hx hb dJ6_numberOfTrailingZeros_0f7a4_76 (by decide) ?_
            refine lv_iushr (v := nI (((k_5 / 256) / 4) / 2)) hx hb dJ6_numberOfTrailingZeros_0f7a4_77 (nushr ((k_5 / 256) / 4) 1 (by omega) (by decide) 2 rfl) ?_
            refine lv_iadd hx hb dJ6_numberOfTrailingZeros_0f7a4_78 ?_
            refine sk_top (nI (11 + (((k_5 / 256) / 4) / 2))) (nI_add 11 (((k_5 / 256) / 4) / 2)) ?_
            exact sk_iret hx hb hr rfl hlocks hK hP hD hS (⟨11 + (((k_5 / 256) / 4) / 2), by omega, rfl, rfl⟩) (Nat.le_of_ble_eq_true rfl) (Nat.le_of_ble_eq_true rfl) dJ6_numberOfTrailingZeros_0f7a4_79
        · have c_11 : ¬ (k_5 / 256 ≤ 16) := fun h => c_11 ((nle (k_5 / 256) 16 (by omega) (by omega)).mpr h)
          refine lv_iinc (v := 13) (lv' := [(1, .int 13), (0, .int (nI (k_5 / 256)))]) hx hb dJ6_numberOfTrailingZeros_0f7a4_55 hl (k := 1) rfl (by decide) (by decide) rfl (fun ls hl => ?_)
          refine lv_iload_n hx hb dJ6_numberOfTrailingZeros_0f7a4_58 rfl (lv_at hl 1 rfl) ?_
          refine lv_iconst (v := 4) hx hb dJ6_numberOfTrailingZeros_0f7a4_59 (by decide) ?_
          refine lv_iushr (v := nI ((k_5 / 256) / 16)) hx hb dJ6_numberOfTrailingZeros_0f7a4_60 (nushr (k_5 / 256) 4 (by omega) (by decide) 16 rfl) ?_
          refine lv_istore_n (lv' := [(0, .int (nI ((k_5 / 256) / 16))), (1, .int 13)]) hx hb dJ6_numberOfTrailingZeros_0f7a4_61 rfl hl (by decide) rfl (fun ls hl => ?_)
          refine lv_iload_n hx hb dJ6_numberOfTrailingZeros_0f7a4_62 rfl (lv_at hl 0 rfl) ?_
          refine lv_iconst (v := 4) hx hb dJ6_numberOfTrailingZeros_0f7a4_63 (by decide) ?_
          refine lv_icmp_le (tgt := 74) hx hb dJ6_numberOfTrailingZeros_0f7a4_64 (by decide) (fun c_13 => ?_) (fun c_13 => ?_)
          · have c_13 : (k_5 / 256) / 16 ≤ 4 := (nle ((k_5 / 256) / 16) 4 (by omega) (by omega)).mp c_13
            refine lv_iload_n hx hb dJ6_numberOfTrailingZeros_0f7a4_74 rfl (lv_at hl 1 rfl) ?_
            refine lv_iload_n hx hb dJ6_numberOfTrailingZeros_0f7a4_75 rfl (lv_at hl 0 rfl) ?_
            refine lv_iconst (v := 1) hx hb dJ6_numberOfTrailingZeros_0f7a4_76 (by decide) ?_
            refine lv_iushr (v := nI (((k_5 / 256) / 16) / 2)) hx hb dJ6_numberOfTrailingZeros_0f7a4_77 (nushr ((k_5 / 256) / 16) 1 (by omega) (by decide) 2 rfl) ?_
            refine lv_iadd hx hb dJ6_numberOfTrailingZeros_0f7a4_78 ?_
            refine sk_top (nI (13 + (((k_5 / 256) / 16) / 2))) (nI_add 13 (((k_5 / 256) / 16) / 2)) ?_
            exact sk_iret hx hb hr rfl hlocks hK hP hD hS (⟨13 + (((k_5 / 256) / 16) / 2), by omega, rfl, rfl⟩) (Nat.le_of_ble_eq_true rfl) (Nat.le_of_ble_eq_true rfl) dJ6_numberOfTrailingZeros_0f7a4_79
          · have c_13 : ¬ ((k_5 / 256) / 16 ≤ 4) := fun h => c_13 ((nle ((k_5 / 256) / 16) 4 (by omega) (by omega)).mpr h)
            refine lv_iinc (v := 15) (lv' := [(1, .int 15), (0, .int (nI ((k_5 / 256) / 16)))]) hx hb dJ6_numberOfTrailingZeros_0f7a4_67 hl (k := 1) rfl (by decide) (by decide) rfl (fun ls hl => ?_)
            refine lv_iload_n hx hb dJ6_numberOfTrailingZeros_0f7a4_70 rfl (lv_at hl 1 rfl) ?_
            refine lv_iconst (v := 2) hx hb dJ6_numberOfTrailingZeros_0f7a4_71 (by decide) ?_
            refine lv_iushr (v := nI (((k_5 / 256) / 16) / 4)) hx hb dJ6_numberOfTrailingZeros_0f7a4_72 (nushr ((k_5 / 256) / 16) 2 (by omega) (by decide) 4 rfl) ?_
            refine lv_istore_n (lv' := [(0, .int (nI (((k_5 / 256) / 16) / 4))), (1, .int 15)]) hx hb dJ6_numberOfTrailingZeros_0f7a4_73 rfl hl (by decide) rfl (fun ls hl => ?_)
            refine lv_iload_n hx hb dJ6_numberOfTrailingZeros_0f7a4_74 rfl (lv_at hl 1 rfl) ?_
            refine lv_iload_n hx hb dJ6_numberOfTrailingZeros_0f7a4_75 rfl (lv_at hl 0 rfl) ?_
            refine lv_iconst (v := 1) hx hb dJ6_numberOfTrailingZeros_0f7a4_76 (by decide) ?_
            refine lv_iushr (v := nI ((((k_5 / 256) / 16) / 4) / 2)) hx hb dJ6_numberOfTrailingZeros_0f7a4_77 (nushr (((k_5 / 256) / 16) / 4) 1 (by omega) (by decide) 2 rfl) ?_
            refine lv_iadd hx hb dJ6_numberOfTrailingZeros_0f7a4_78 ?_
            refine sk_top (nI (15 + ((((k_5 / 256) / 16) / 4) / 2))) (nI_add 15 ((((k_5 / 256) / 16) / 4) / 2)) ?_
            exact sk_iret hx hb hr rfl hlocks hK hP hD hS (⟨15 + ((((k_5 / 256) / 16) / 4) / 2), by omega, rfl, rfl⟩) (Nat.le_of_ble_eq_true rfl) (Nat.le_of_ble_eq_true rfl) dJ6_numberOfTrailingZeros_0f7a4_79
    · have c_6 : ¬ (k_5 ≤ 65536) := fun h => c_6 ((nle k_5 65536 (by omega) (by omega)).mpr h)
      refine lv_iinc (v := 17) (lv' := [(1, .int 17), (0, .int (nI k_5))]) hx hb dJ6_numberOfTrailingZeros_0f7a4_26 hl (k := 0) rfl (by decide) (by decide) rfl (fun ls hl => ?_)
      refine lv_iload_n hx hb dJ6_numberOfTrailingZeros_0f7a4_29 rfl (lv_at hl 1 rfl) ?_
      refine lv_bipush (v := 16) hx hb dJ6_numberOfTrailingZeros_0f7a4_30 (by decide) ?_
      refine lv_iushr (v := nI (k_5 / 65536)) hx hb dJ6_numberOfTrailingZeros_0f7a4_32 (nushr k_5 16 (by omega) (by decide) 65536 rfl) ?_
      refine lv_istore_n (lv' := [(0, .int (nI (k_5 / 65536))), (1, .int 17)]) hx hb dJ6_numberOfTrailingZeros_0f7a4_33 rfl hl (by decide) rfl (fun ls hl => ?_)
      refine lv_iload_n hx hb dJ6_numberOfTrailingZeros_0f7a4_34 rfl (lv_at hl 0 rfl) ?_
      refine lv_sipush (v := 256) hx hb dJ6_numberOfTrailingZeros_0f7a4_35 (by decide) ?_
      refine lv_icmp_le (tgt := 49) hx hb dJ6_numberOfTrailingZeros_0f7a4_38 (by decide) (fun c_14 => ?_) (fun c_14 => ?_)
      · have c_14 : k_5 / 65536 ≤ 256 := (nle (k_5 / 65536) 256 (by omega) (by omega)).mp c_14
        refine lv_iload_n hx hb dJ6_numberOfTrailingZeros_0f7a4_49 rfl (lv_at hl 0 rfl) ?_
        refine lv_bipush (v := 16) hx hb dJ6_numberOfTrailingZeros_0f7a4_50 (by decide) ?_
        refine lv_icmp_le (tgt := 62) hx hb dJ6_numberOfTrailingZeros_0f7a4_52 (by decide) (fun c_15 => ?_) (fun c_15 => ?_)
        · have c_15 : k_5 / 65536 ≤ 16 := (nle (k_5 / 65536) 16 (by omega) (by omega)).mp c_15
          refine lv_iload_n hx hb dJ6_numberOfTrailingZeros_0f7a4_62 rfl (lv_at hl 0 rfl) ?_
          refine lv_iconst (v := 4) hx hb dJ6_numberOfTrailingZeros_0f7a4_63 (by decide) ?_
          refine lv_icmp_le (tgt := 74) hx hb dJ6_numberOfTrailingZeros_0f7a4_64 (by decide) (fun c_16 => ?_) (fun c_16 => ?_)
          · have c_16 : k_5 / 65536 ≤ 4 := (nle (k_5 / 65536) 4 (by omega) (by omega)).mp c_16
            refine lv_iload_n hx hb dJ6_numberOfTrailingZeros_0f7a4_74 rfl (lv_at hl 1 rfl) ?_
            refine lv_iload_n hx hb dJ6_numberOfTrailingZeros_0f7a4_75 rfl (lv_at hl 0 rfl) ?_
            refine lv_iconst (v := 1) hx hb dJ6_numberOfTrailingZeros_0f7a4_76 (by decide) ?_
            refine lv_iushr (v := nI ((k_5 / 65536) / 2)) hx hb dJ6_numberOfTrailingZeros_0f7a4_77 (nushr (k_5 / 65536) 1 (by omega) (by decide) 2 rfl) ?_
            refine lv_iadd hx hb dJ6_numberOfTrailingZeros_0f7a4_78 ?_
            refine sk_top (nI (17 + ((k_5 / 65536) / 2))) (nI_add 17 ((k_5 / 65536) / 2)) ?_
            exact sk_iret hx hb hr rfl hlocks hK hP hD hS (⟨17 + ((k_5 / 65536) / 2), by omega, rfl, rfl⟩) (Nat.le_of_ble_eq_true rfl) (Nat.le_of_ble_eq_true rfl) dJ6_numberOfTrailingZeros_0f7a4_79
          · have c_16 : ¬ (k_5 / 65536 ≤ 4) := fun h => c_16 ((nle (k_5 / 65536) 4 (by omega) (by omega)).mpr h)
            refine lv_iinc (v := 19) (lv' := [(1, .int 19), (0, .int (nI (k_5 / 65536)))]) hx hb dJ6_numberOfTrailingZeros_0f7a4_67 hl (k := 1) rfl (by decide) (by decide) rfl (fun ls hl => ?_)
            refine lv_iload_n hx hb dJ6_numberOfTrailingZeros_0f7a4_70 rfl (lv_at hl 1 rfl) ?_
            refine lv_iconst (v := 2) hx hb dJ6_numberOfTrailingZeros_0f7a4_71 (by decide) ?_
            refine lv_iushr (v := nI ((k_5 / 65536) / 4)) hx hb dJ6_numberOfTrailingZeros_0f7a4_72 (nushr (k_5 / 65536) 2 (by omega) (by decide) 4 rfl) ?_
            refine lv_istore_n (lv' := [(0, .int (nI ((k_5 / 65536) / 4))), (1, .int 19)]) hx hb dJ6_numberOfTrailingZeros_0f7a4_73 rfl hl (by decide) rfl (fun ls hl => ?_)
            refine lv_iload_n hx hb dJ6_numberOfTrailingZeros_0f7a4_74 rfl (lv_at hl 1 rfl) ?_
            refine lv_iload_n hx hb dJ6_numberOfTrailingZeros_0f7a4_75 rfl (lv_at hl 0 rfl) ?_
            refine lv_iconst (v := 1) hx hb dJ6_numberOfTrailingZeros_0f7a4_76 (by decide) ?_
            refine lv_iushr (v := nI (((k_5 / 65536) / 4) / 2)) hx hb dJ6_numberOfTrailingZeros_0f7a4_77 (nushr ((k_5 / 65536) / 4) 1 (by omega) (by decide) 2 rfl) ?_
            refine lv_iadd hx hb dJ6_numberOfTrailingZeros_0f7a4_78 ?_
            refine sk_top (nI (19 + (((k_5 / 65536) / 4) / 2))) (nI_add 19 (((k_5 / 65536) / 4) / 2)) ?_
            exact sk_iret hx hb hr rfl hlocks hK hP hD hS (⟨19 + (((k_5 / 65536) / 4) / 2), by omega, rfl, rfl⟩) (Nat.le_of_ble_eq_true rfl) (Nat.le_of_ble_eq_true rfl) dJ6_numberOfTrailingZeros_0f7a4_79
        · have c_15 : ¬ (k_5 / 65536 ≤ 16) := fun h => c_15 ((nle (k_5 / 65536) 16 (by omega) (by omega)).mpr h)
          refine lv_iinc (v := 21) (lv' := [(1, .int 21), (0, .int (nI (k_5 / 65536)))]) hx hb dJ6_numberOfTrailingZeros_0f7a4_55 hl (k := 1) rfl (by decide) (by decide) rfl (fun ls hl => ?_)
          refine lv_iload_n hx hb dJ6_numberOfTrailingZeros_0f7a4_58 rfl (lv_at hl 1 rfl) ?_
          refine lv_iconst (v := 4) hx hb dJ6_numberOfTrailingZeros_0f7a4_59 (by decide) ?_
          refine lv_iushr (v := nI ((k_5 / 65536) / 16)) hx hb dJ6_numberOfTrailingZeros_0f7a4_60 (nushr (k_5 / 65536) 4 (by omega) (by decide) 16 rfl) ?_
          refine lv_istore_n (lv' := [(0, .int (nI ((k_5 / 65536) / 16))), (1, .int 21)]) hx hb dJ6_numberOfTrailingZeros_0f7a4_61 rfl hl (by decide) rfl (fun ls hl => ?_)
          refine lv_iload_n hx hb dJ6_numberOfTrailingZeros_0f7a4_62 rfl (lv_at hl 0 rfl) ?_
          refine lv_iconst (v := 4) hx hb dJ6_numberOfTrailingZeros_0f7a4_63 (by decide) ?_
          refine lv_icmp_le (tgt := 74) hx hb dJ6_numberOfTrailingZeros_0f7a4_64 (by decide) (fun c_17 => ?_) (fun c_17 => ?_)
          · have c_17 : (k_5 / 65536) / 16 ≤ 4 := (nle ((k_5 / 65536) / 16) 4 (by omega) (by omega)).mp c_17
            refine lv_iload_n hx hb dJ6_numberOfTrailingZeros_0f7a4_74 rfl (lv_at hl 1 rfl) ?_
            refine lv_iload_n hx hb dJ6_numberOfTrailingZeros_0f7a4_75 rfl (lv_at hl 0 rfl) ?_
            refine lv_iconst (v := 1) hx hb dJ6_numberOfTrailingZeros_0f7a4_76 (by decide) ?_
            refine lv_iushr (v := nI (((k_5 / 65536) / 16) / 2)) hx hb dJ6_numberOfTrailingZeros_0f7a4_77 (nushr ((k_5 / 65536) / 16) 1 (by omega) (by decide) 2 rfl) ?_
            refine lv_iadd hx hb dJ6_numberOfTrailingZeros_0f7a4_78 ?_
            refine sk_top (nI (21 + (((k_5 / 65536) / 16) / 2))) (nI_add 21 (((k_5 / 65536) / 16) / 2)) ?_
            exact sk_iret hx hb hr rfl hlocks hK hP hD hS (⟨21 + (((k_5 / 65536) / 16) / 2), by omega, rfl, rfl⟩) (Nat.le_of_ble_eq_true rfl) (Nat.le_of_ble_eq_true rfl) dJ6_numberOfTrailingZeros_0f7a4_79
          · have c_17 : ¬ ((k_5 / 65536) / 16 ≤ 4) := fun h => c_17 ((nle ((k_5 / 65536) / 16) 4 (by omega) (by omega)).mpr h)
            refine lv_iinc (v := 23) (lv' := [(1, .int 23), (0, .int (nI ((k_5 / 65536) / 16)))]) hx hb dJ6_numberOfTrailingZeros_0f7a4_67 hl (k := 1) rfl (by decide) (by decide) rfl (fun ls hl => ?_)
            refine lv_iload_n hx hb dJ6_numberOfTrailingZeros_0f7a4_70 rfl (lv_at hl 1 rfl) ?_
            refine lv_iconst (v := 2) hx hb dJ6_numberOfTrailingZeros_0f7a4_71 (by decide) ?_
            refine lv_iushr (v := nI (((k_5 / 65536) / 16) / 4)) hx hb dJ6_numberOfTrailingZeros_0f7a4_72 (nushr ((k_5 / 65536) / 16) 2 (by omega) (by decide) 4 rfl) ?_
            refine lv_istore_n (lv' := [(0, .int (nI (((k_5 / 65536) / 16) / 4))), (1, .int 23)]) hx hb dJ6_numberOfTrailingZeros_0f7a4_73 rfl hl (by decide) rfl (fun ls hl => ?_)
            refine lv_iload_n hx hb dJ6_numberOfTrailingZeros_0f7a4_74 rfl (lv_at hl 1 rfl) ?_
            refine lv_iload_n hx hb dJ6_numberOfTrailingZeros_0f7a4_75 rfl (lv_at hl 0 rfl) ?_
            refine lv_iconst (v := 1) hx hb dJ6_numberOfTrailingZeros_0f7a4_76 (by decide) ?_
            refine lv_iushr (v := nI ((((k_5 / 65536) / 16) / 4) / 2)) hx hb dJ6_numberOfTrailingZeros_0f7a4_77 (nushr (((k_5 / 65536) / 16) / 4) 1 (by omega) (by decide) 2 rfl) ?_
            refine lv_iadd hx hb dJ6_numberOfTrailingZeros_0f7a4_78 ?_
            refine sk_top (nI (23 + ((((k_5 / 65536) / 16) / 4) / 2))) (nI_add 23 ((((k_5 / 65536) / 16) / 4) / 2)) ?_
            exact sk_iret hx hb hr rfl hlocks hK hP hD hS (⟨23 + ((((k_5 / 65536) / 16) / 4) / 2), by omega, rfl, rfl⟩) (Nat.le_of_ble_eq_true rfl) (Nat.le_of_ble_eq_true rfl) dJ6_numberOfTrailingZeros_0f7a4_79
      · have c_14 : ¬ (k_5 / 65536 ≤ 256) := fun h => c_14 ((nle (k_5 / 65536) 256 (by omega) (by omega)).mpr h)
        refine lv_iinc (v := 25) (lv' := [(1, .int 25), (0, .int (nI (k_5 / 65536)))]) hx hb dJ6_numberOfTrailingZeros_0f7a4_41 hl (k := 1) rfl (by decide) (by decide) rfl (fun ls hl => ?_)
        refine lv_iload_n hx hb dJ6_numberOfTrailingZeros_0f7a4_44 rfl (lv_at hl 1 rfl) ?_
        refine lv_bipush (v := 8) hx hb dJ6_numberOfTrailingZeros_0f7a4_45 (by decide) ?_
        refine lv_iushr (v := nI ((k_5 / 65536) / 256)) hx hb dJ6_numberOfTrailingZeros_0f7a4_47 (nushr (k_5 / 65536) 8 (by omega) (by decide) 256 rfl) ?_
        refine lv_istore_n (lv' := [(0, .int (nI ((k_5 / 65536) / 256))), (1, .int 25)]) hx hb dJ6_numberOfTrailingZeros_0f7a4_48 rfl hl (by decide) rfl (fun ls hl => ?_)
        refine lv_iload_n hx hb dJ6_numberOfTrailingZeros_0f7a4_49 rfl (lv_at hl 0 rfl) ?_
        refine lv_bipush (v := 16) hx hb dJ6_numberOfTrailingZeros_0f7a4_50 (by decide) ?_
        refine lv_icmp_le (tgt := 62) hx hb dJ6_numberOfTrailingZeros_0f7a4_52 (by decide) (fun c_18 => ?_) (fun c_18 => ?_)
        · have c_18 : (k_5 / 65536) / 256 ≤ 16 := (nle ((k_5 / 65536) / 256) 16 (by omega) (by omega)).mp c_18
          refine lv_iload_n hx hb dJ6_numberOfTrailingZeros_0f7a4_62 rfl (lv_at hl 0 rfl) ?_
          refine lv_iconst (v := 4) hx hb dJ6_numberOfTrailingZeros_0f7a4_63 (by decide) ?_
          refine lv_icmp_le (tgt := 74) hx hb dJ6_numberOfTrailingZeros_0f7a4_64 (by decide) (fun c_19 => ?_) (fun c_19 => ?_)
          · have c_19 : (k_5 / 65536) / 256 ≤ 4 := (nle ((k_5 / 65536) / 256) 4 (by omega) (by omega)).mp c_19
            refine lv_iload_n hx hb dJ6_numberOfTrailingZeros_0f7a4_74 rfl (lv_at hl 1 rfl) ?_
            refine lv_iload_n hx hb dJ6_numberOfTrailingZeros_0f7a4_75 rfl (lv_at hl 0 rfl) ?_
            refine lv_iconst (v := 1) hx hb dJ6_numberOfTrailingZeros_0f7a4_76 (by decide) ?_
            refine lv_iushr (v := nI (((k_5 / 65536) / 256) / 2)) hx hb dJ6_numberOfTrailingZeros_0f7a4_77 (nushr ((k_5 / 65536) / 256) 1 (by omega) (by decide) 2 rfl) ?_
            refine lv_iadd hx hb dJ6_numberOfTrailingZeros_0f7a4_78 ?_
            refine sk_top (nI (25 + (((k_5 / 65536) / 256) / 2))) (nI_add 25 (((k_5 / 65536) / 256) / 2)) ?_
            exact sk_iret hx hb hr rfl hlocks hK hP hD hS (⟨25 + (((k_5 / 65536) / 256) / 2), by omega, rfl, rfl⟩) (Nat.le_of_ble_eq_true rfl) (Nat.le_of_ble_eq_true rfl) dJ6_numberOfTrailingZeros_0f7a4_79
          · have c_19 : ¬ ((k_5 / 65536) / 256 ≤ 4) := fun h => c_19 ((nle ((k_5 / 65536) / 256) 4 (by omega) (by omega)).mpr h)
            refine lv_iinc (v := 27) (lv' := [(1, .int 27), (0, .int (nI ((k_5 / 65536) / 256)))]) hx hb dJ6_numberOfTrailingZeros_0f7a4_67 hl (k := 1) rfl (by decide) (by decide) rfl (fun ls hl => ?_)
            refine lv_iload_n hx hb dJ6_numberOfTrailingZeros_0f7a4_70 rfl (lv_at hl 1 rfl) ?_
            refine lv_iconst (v := 2) hx hb dJ6_numberOfTrailingZeros_0f7a4_71 (by decide) ?_
            refine lv_iushr (v := nI (((k_5 / 65536) / 256) / 4)) hx hb dJ6_numberOfTrailingZeros_0f7a4_72 (nushr ((k_5 / 65536) / 256) 2 (by omega) (by decide) 4 rfl) ?_
            refine lv_istore_n (lv' := [(0, .int (nI (((k_5 / 65536) / 256) / 4))), (1, .int 27)]) hx hb dJ6_numberOfTrailingZeros_0f7a4_73 rfl hl (by decide) rfl (fun ls hl => ?_)
            refine lv_iload_n hx hb dJ6_numberOfTrailingZeros_0f7a4_74 rfl (lv_at hl 1 rfl) ?_
            refine lv_iload_n hx hb dJ6_numberOfTrailingZeros_0f7a4_75 rfl (lv_at hl 0 rfl) ?_
            refine lv_iconst (v := 1) hx hb dJ6_numberOfTrailingZeros_0f7a4_76 (by decide) ?_
            refine lv_iushr (v := nI ((((k_5 / 65536) / 256) / 4) / 2)) hx hb dJ6_numberOfTrailingZeros_0f7a4_77 (nushr (((k_5 / 65536) / 256) / 4) 1 (by omega) (by decide) 2 rfl) ?_
            refine lv_iadd hx hb dJ6_numberOfTrailingZeros_0f7a4_78 ?_
            refine sk_top (nI (27 + ((((k_5 / 65536) / 256) / 4) / 2))) (nI_add 27 ((((k_5 / 65536) / 256) / 4) / 2)) ?_
            exact sk_iret hx hb hr rfl hlocks hK hP hD hS (⟨27 + ((((k_5 / 65536) / 256) / 4) / 2), by omega, rfl, rfl⟩) (Nat.le_of_ble_eq_true rfl) (Nat.le_of_ble_eq_true rfl) dJ6_numberOfTrailingZeros_0f7a4_79
        · have c_18 : ¬ ((k_5 / 65536) / 256 ≤ 16) := fun h => c_18 ((nle ((k_5 / 65536) / 256) 16 (by omega) (by omega)).mpr h)
          refine lv_iinc (v := 29) (lv' := [(1, .int 29), (0, .int (nI ((k_5 / 65536) / 256)))]) hx hb dJ6_numberOfTrailingZeros_0f7a4_55 hl (k := 1) rfl (by decide) (by decide) rfl (fun ls hl => ?_)
          refine lv_iload_n hx hb dJ6_numberOfTrailingZeros_0f7a4_58 rfl (lv_at hl 1 rfl) ?_
          refine lv_iconst (v := 4) hx hb dJ6_numberOfTrailingZeros_0f7a4_59 (by decide) ?_
          refine lv_iushr (v := nI (((k_5 / 65536) / 256) / 16)) hx hb dJ6_numberOfTrailingZeros_0f7a4_60 (nushr ((k_5 / 65536) / 256) 4 (by omega) (by decide) 16 rfl) ?_
          refine lv_istore_n (lv' := [(0, .int (nI (((k_5 / 65536) / 256) / 16))), (1, .int 29)]) hx hb dJ6_numberOfTrailingZeros_0f7a4_61 rfl hl (by decide) rfl (fun ls hl => ?_)
          refine lv_iload_n hx hb dJ6_numberOfTrailingZeros_0f7a4_62 rfl (lv_at hl 0 rfl) ?_
          refine lv_iconst (v := 4) hx hb dJ6_numberOfTrailingZeros_0f7a4_63 (by decide) ?_
          refine lv_icmp_le (tgt := 74) hx hb dJ6_numberOfTrailingZeros_0f7a4_64 (by decide) (fun c_20 => ?_) (fun c_20 => ?_)
          · have c_20 : ((k_5 / 65536) / 256) / 16 ≤ 4 := (nle (((k_5 / 65536) / 256) / 16) 4 (by omega) (by omega)).mp c_20
            refine lv_iload_n hx hb dJ6_numberOfTrailingZeros_0f7a4_74 rfl (lv_at hl 1 rfl) ?_
            refine lv_iload_n hx hb dJ6_numberOfTrailingZeros_0f7a4_75 rfl (lv_at hl 0 rfl) ?_
            refine lv_iconst (v := 1) hx hb dJ6_numberOfTrailingZeros_0f7a4_76 (by decide) ?_
            refine lv_iushr (v := nI ((((k_5 / 65536) / 256) / 16) / 2)) hx hb dJ6_numberOfTrailingZeros_0f7a4_77 (nushr (((k_5 / 65536) / 256) / 16) 1 (by omega) (by decide) 2 rfl) ?_
            refine lv_iadd hx hb dJ6_numberOfTrailingZeros_0f7a4_78 ?_
            refine sk_top (nI (29 + ((((k_5 / 65536) / 256) / 16) / 2))) (nI_add 29 ((((k_5 / 65536) / 256) / 16) / 2)) ?_
            exact sk_iret hx hb hr rfl hlocks hK hP hD hS (⟨29 + ((((k_5 / 65536) / 256) / 16) / 2), by omega, rfl, rfl⟩) (Nat.le_of_ble_eq_true rfl) (Nat.le_of_ble_eq_true rfl) dJ6_numberOfTrailingZeros_0f7a4_79
          · have c_20 : ¬ (((k_5 / 65536) / 256) / 16 ≤ 4) := fun h => c_20 ((nle (((k_5 / 65536) / 256) / 16) 4 (by omega) (by omega)).mpr h)
            refine lv_iinc (v := 31) (lv' := [(1, .int 31), (0, .int (nI (((k_5 / 65536) / 256) / 16)))]) hx hb dJ6_numberOfTrailingZeros_0f7a4_67 hl (k := 1) rfl (by decide) (by decide) rfl (fun ls hl => ?_)
            refine lv_iload_n hx hb dJ6_numberOfTrailingZeros_0f7a4_70 rfl (lv_at hl 1 rfl) ?_
            refine lv_iconst (v := 2) hx hb dJ6_numberOfTrailingZeros_0f7a4_71 (by decide) ?_
            refine lv_iushr (v := nI ((((k_5 / 65536) / 256) / 16) / 4)) hx hb dJ6_numberOfTrailingZeros_0f7a4_72 (nushr (((k_5 / 65536) / 256) / 16) 2 (by omega) (by decide) 4 rfl) ?_
            refine lv_istore_n (lv' := [(0, .int (nI ((((k_5 / 65536) / 256) / 16) / 4))), (1, .int 31)]) hx hb dJ6_numberOfTrailingZeros_0f7a4_73 rfl hl (by decide) rfl (fun ls hl => ?_)
            refine lv_iload_n hx hb dJ6_numberOfTrailingZeros_0f7a4_74 rfl (lv_at hl 1 rfl) ?_
            refine lv_iload_n hx hb dJ6_numberOfTrailingZeros_0f7a4_75 rfl (lv_at hl 0 rfl) ?_
            refine lv_iconst (v := 1) hx hb dJ6_numberOfTrailingZeros_0f7a4_76 (by decide) ?_
            refine lv_iushr (v := nI (((((k_5 / 65536) / 256) / 16) / 4) / 2)) hx hb dJ6_numberOfTrailingZeros_0f7a4_77 (nushr ((((k_5 / 65536) / 256) / 16) / 4) 1 (by omega) (by decide) 2 rfl) ?_
            refine lv_iadd hx hb dJ6_numberOfTrailingZeros_0f7a4_78 ?_
            refine sk_top (nI (31 + (((((k_5 / 65536) / 256) / 16) / 4) / 2))) (nI_add 31 (((((k_5 / 65536) / 256) / 16) / 4) / 2)) ?_
            exact sk_iret hx hb hr rfl hlocks hK hP hD hS (⟨31 + (((((k_5 / 65536) / 256) / 16) / 4) / 2), by omega, rfl, rfl⟩) (Nat.le_of_ble_eq_true rfl) (Nat.le_of_ble_eq_true rfl) dJ6_numberOfTrailingZeros_0f7a4_79
  · skip
    refine lv_iload_n hx hb dJ6_numberOfTrailingZeros_0f7a4_12 rfl (lv_at hl 0 rfl) ?_
    refine lv_bipush (v := 32) hx hb dJ6_numberOfTrailingZeros_0f7a4_13 (by decide) ?_
    refine lv_iand hx hb dJ6_numberOfTrailingZeros_0f7a4_15 ?_
    obtain ⟨k_21, hk_21, ek_21⟩ := nand32 v_3
    refine sk_top (nI k_21) ek_21 ?_
    exact sk_iret hx hb hr rfl hlocks hK hP hD hS (⟨k_21, by omega, rfl, rfl⟩) (Nat.le_of_ble_eq_true rfl) (Nat.le_of_ble_eq_true rfl) dJ6_numberOfTrailingZeros_0f7a4_16
