section
-- ===== PART A: goes FIRST, ahead of the names: the tables' words, and 'selects' of the private methods out of them =====
/-- a private method of a class that the tables say can be made, by its rows of tables_1 -/
def lw_okq (q : MethodName × Nat) : Prop := (q.1.cls ≠ "java/lang/invoke/MethodHandle" ∧ q.1.cls ≠ "java/lang/invoke/VarHandle") ∧ Cond.instantiable q.1.cls q.2 ∈ tables_1 ∧ Cond.privateMethod q.1 ∈ tables_1 ∧ Cond.instanceMethod q.1 ∈ tables_1
theorem lw_p0 : lw_okq (⟨"SameKeeper", "refuse", "(I)I"⟩, 18) := ⟨⟨by decide +kernel, by decide +kernel⟩, List.mem_of_getElem? (i := 23) (by decide +kernel), List.mem_of_getElem? (i := 423) (by decide +kernel), List.mem_of_getElem? (i := 424) (by decide +kernel)⟩
theorem lw_p1 : lw_okq (⟨"SameKeeper", "refuseIt", "(I)Z"⟩, 18) := ⟨⟨by decide +kernel, by decide +kernel⟩, List.mem_of_getElem? (i := 23) (by decide +kernel), List.mem_of_getElem? (i := 439) (by decide +kernel), List.mem_of_getElem? (i := 440) (by decide +kernel)⟩
theorem lw_p2 : lw_okq (⟨"SameKeeper$Reader", "readWord", "()V"⟩, 8) := ⟨⟨by decide +kernel, by decide +kernel⟩, List.mem_of_getElem? (i := 51) (by decide +kernel), List.mem_of_getElem? (i := 470) (by decide +kernel), List.mem_of_getElem? (i := 471) (by decide +kernel)⟩
theorem lw_p3 : lw_okq (⟨"SameKeeper$Reader", "readNumber", "()V"⟩, 8) := ⟨⟨by decide +kernel, by decide +kernel⟩, List.mem_of_getElem? (i := 51) (by decide +kernel), List.mem_of_getElem? (i := 523) (by decide +kernel), List.mem_of_getElem? (i := 524) (by decide +kernel)⟩
theorem lw_p4 : lw_okq (⟨"SameKeeper$LockText", "readOpening", "(LSameKeeper$Lock;)V"⟩, 3) := ⟨⟨by decide +kernel, by decide +kernel⟩, List.mem_of_getElem? (i := 89) (by decide +kernel), List.mem_of_getElem? (i := 527) (by decide +kernel), List.mem_of_getElem? (i := 528) (by decide +kernel)⟩
theorem lw_p5 : lw_okq (⟨"SameKeeper$LockText", "readSumOf", "(LSameKeeper$Lock;ILSameKeeper$Sums;)V"⟩, 3) := ⟨⟨by decide +kernel, by decide +kernel⟩, List.mem_of_getElem? (i := 89) (by decide +kernel), List.mem_of_getElem? (i := 547) (by decide +kernel), List.mem_of_getElem? (i := 548) (by decide +kernel)⟩
theorem lw_p6 : lw_okq (⟨"SameKeeper$Sums", "readSum", "(LSameKeeper$Code;)V"⟩, 2) := ⟨⟨by decide +kernel, by decide +kernel⟩, List.mem_of_getElem? (i := 95) (by decide +kernel), List.mem_of_getElem? (i := 565) (by decide +kernel), List.mem_of_getElem? (i := 566) (by decide +kernel)⟩
theorem lw_p7 : lw_okq (⟨"SameKeeper$Sums", "readProduct", "(LSameKeeper$Code;)V"⟩, 2) := ⟨⟨by decide +kernel, by decide +kernel⟩, List.mem_of_getElem? (i := 95) (by decide +kernel), List.mem_of_getElem? (i := 569) (by decide +kernel), List.mem_of_getElem? (i := 570) (by decide +kernel)⟩
theorem lw_p8 : lw_okq (⟨"SameKeeper$Sums", "readPart", "(LSameKeeper$Code;)V"⟩, 2) := ⟨⟨by decide +kernel, by decide +kernel⟩, List.mem_of_getElem? (i := 95) (by decide +kernel), List.mem_of_getElem? (i := 573) (by decide +kernel), List.mem_of_getElem? (i := 574) (by decide +kernel)⟩
theorem lw_p9 : lw_okq (⟨"SameKeeper$Sums", "readPair", "(LSameKeeper$Code;I)V"⟩, 2) := ⟨⟨by decide +kernel, by decide +kernel⟩, List.mem_of_getElem? (i := 95) (by decide +kernel), List.mem_of_getElem? (i := 592) (by decide +kernel), List.mem_of_getElem? (i := 593) (by decide +kernel)⟩
theorem lw_p10 : lw_okq (⟨"SameKeeper$Sums", "nameInLock", "(I)I"⟩, 2) := ⟨⟨by decide +kernel, by decide +kernel⟩, List.mem_of_getElem? (i := 95) (by decide +kernel), List.mem_of_getElem? (i := 599) (by decide +kernel), List.mem_of_getElem? (i := 600) (by decide +kernel)⟩
theorem lw_p11 : lw_okq (⟨"SameKeeper$LockText", "readNumbers", "(LSameKeeper$Lock;)V"⟩, 3) := ⟨⟨by decide +kernel, by decide +kernel⟩, List.mem_of_getElem? (i := 89) (by decide +kernel), List.mem_of_getElem? (i := 608) (by decide +kernel), List.mem_of_getElem? (i := 609) (by decide +kernel)⟩
theorem lw_p12 : lw_okq (⟨"SameKeeper$LockText", "readAmount", "(LSameKeeper$Lock;[I)V"⟩, 3) := ⟨⟨by decide +kernel, by decide +kernel⟩, List.mem_of_getElem? (i := 89) (by decide +kernel), List.mem_of_getElem? (i := 612) (by decide +kernel), List.mem_of_getElem? (i := 613) (by decide +kernel)⟩
theorem lw_p13 : lw_okq (⟨"SameKeeper$LockText", "readMute", "(LSameKeeper$Lock;)V"⟩, 3) := ⟨⟨by decide +kernel, by decide +kernel⟩, List.mem_of_getElem? (i := 89) (by decide +kernel), List.mem_of_getElem? (i := 616) (by decide +kernel), List.mem_of_getElem? (i := 617) (by decide +kernel)⟩
theorem lw_p14 : lw_okq (⟨"SameKeeper", "isDay", "(I)Z"⟩, 18) := ⟨⟨by decide +kernel, by decide +kernel⟩, List.mem_of_getElem? (i := 23) (by decide +kernel), List.mem_of_getElem? (i := 671) (by decide +kernel), List.mem_of_getElem? (i := 672) (by decide +kernel)⟩
theorem lw_p15 : lw_okq (⟨"SameKeeper$Table", "fillWords", "(LSameKeeper$Lock;I)V"⟩, 6) := ⟨⟨by decide +kernel, by decide +kernel⟩, List.mem_of_getElem? (i := 298) (by decide +kernel), List.mem_of_getElem? (i := 697) (by decide +kernel), List.mem_of_getElem? (i := 698) (by decide +kernel)⟩
def lw_privs_1 : List (MethodName × Nat) := [(⟨"SameKeeper", "refuse", "(I)I"⟩, 18), (⟨"SameKeeper", "refuseIt", "(I)Z"⟩, 18), (⟨"SameKeeper$Reader", "readWord", "()V"⟩, 8), (⟨"SameKeeper$Reader", "readNumber", "()V"⟩, 8), (⟨"SameKeeper$LockText", "readOpening", "(LSameKeeper$Lock;)V"⟩, 3), (⟨"SameKeeper$LockText", "readSumOf", "(LSameKeeper$Lock;ILSameKeeper$Sums;)V"⟩, 3), (⟨"SameKeeper$Sums", "readSum", "(LSameKeeper$Code;)V"⟩, 2), (⟨"SameKeeper$Sums", "readProduct", "(LSameKeeper$Code;)V"⟩, 2), (⟨"SameKeeper$Sums", "readPart", "(LSameKeeper$Code;)V"⟩, 2), (⟨"SameKeeper$Sums", "readPair", "(LSameKeeper$Code;I)V"⟩, 2), (⟨"SameKeeper$Sums", "nameInLock", "(I)I"⟩, 2), (⟨"SameKeeper$LockText", "readNumbers", "(LSameKeeper$Lock;)V"⟩, 3), (⟨"SameKeeper$LockText", "readAmount", "(LSameKeeper$Lock;[I)V"⟩, 3), (⟨"SameKeeper$LockText", "readMute", "(LSameKeeper$Lock;)V"⟩, 3), (⟨"SameKeeper", "isDay", "(I)Z"⟩, 18), (⟨"SameKeeper$Table", "fillWords", "(LSameKeeper$Lock;I)V"⟩, 6)]
theorem lw_r1 : ∀ q ∈ lw_privs_1, lw_okq q := List.forall_mem_cons.mpr ⟨lw_p0, List.forall_mem_cons.mpr ⟨lw_p1, List.forall_mem_cons.mpr ⟨lw_p2, List.forall_mem_cons.mpr ⟨lw_p3, List.forall_mem_cons.mpr ⟨lw_p4, List.forall_mem_cons.mpr ⟨lw_p5, List.forall_mem_cons.mpr ⟨lw_p6, List.forall_mem_cons.mpr ⟨lw_p7, List.forall_mem_cons.mpr ⟨lw_p8, List.forall_mem_cons.mpr ⟨lw_p9, List.forall_mem_cons.mpr ⟨lw_p10, List.forall_mem_cons.mpr ⟨lw_p11, List.forall_mem_cons.mpr ⟨lw_p12, List.forall_mem_cons.mpr ⟨lw_p13, List.forall_mem_cons.mpr ⟨lw_p14, List.forall_mem_cons.mpr ⟨lw_p15, fun _ h => absurd h List.not_mem_nil⟩⟩⟩⟩⟩⟩⟩⟩⟩⟩⟩⟩⟩⟩⟩⟩
theorem lw_p16 : lw_okq (⟨"SameKeeper$Code", "ofOne", "(IJ)J"⟩, 6) := ⟨⟨by decide +kernel, by decide +kernel⟩, List.mem_of_getElem? (i := 124) (by decide +kernel), List.mem_of_getElem? (i := 723) (by decide +kernel), List.mem_of_getElem? (i := 724) (by decide +kernel)⟩
theorem lw_p17 : lw_okq (⟨"SameKeeper$Table", "fillDeeds", "(LSameKeeper$Lock;I)V"⟩, 6) := ⟨⟨by decide +kernel, by decide +kernel⟩, List.mem_of_getElem? (i := 298) (by decide +kernel), List.mem_of_getElem? (i := 734) (by decide +kernel), List.mem_of_getElem? (i := 735) (by decide +kernel)⟩
theorem lw_p18 : lw_okq (⟨"SameKeeper", "isLocked", "()Z"⟩, 18) := ⟨⟨by decide +kernel, by decide +kernel⟩, List.mem_of_getElem? (i := 23) (by decide +kernel), List.mem_of_getElem? (i := 760) (by decide +kernel), List.mem_of_getElem? (i := 761) (by decide +kernel)⟩
theorem lw_p19 : lw_okq (⟨"SameKeeper", "lookAt", "(LSameKeeper$State;)Z"⟩, 18) := ⟨⟨by decide +kernel, by decide +kernel⟩, List.mem_of_getElem? (i := 23) (by decide +kernel), List.mem_of_getElem? (i := 764) (by decide +kernel), List.mem_of_getElem? (i := 765) (by decide +kernel)⟩
theorem lw_p20 : lw_okq (⟨"SameKeeper$Graph", "next", "(II)I"⟩, 9) := ⟨⟨by decide +kernel, by decide +kernel⟩, List.mem_of_getElem? (i := 330) (by decide +kernel), List.mem_of_getElem? (i := 778) (by decide +kernel), List.mem_of_getElem? (i := 779) (by decide +kernel)⟩
theorem lw_p21 : lw_okq (⟨"SameKeeper", "takeWeek", "(I[I)Z"⟩, 18) := ⟨⟨by decide +kernel, by decide +kernel⟩, List.mem_of_getElem? (i := 23) (by decide +kernel), List.mem_of_getElem? (i := 790) (by decide +kernel), List.mem_of_getElem? (i := 791) (by decide +kernel)⟩
theorem lw_p22 : lw_okq (⟨"SameKeeper", "fewest", "(III)I"⟩, 18) := ⟨⟨by decide +kernel, by decide +kernel⟩, List.mem_of_getElem? (i := 23) (by decide +kernel), List.mem_of_getElem? (i := 817) (by decide +kernel), List.mem_of_getElem? (i := 818) (by decide +kernel)⟩
theorem lw_p23 : lw_okq (⟨"SameKeeper", "serves", "(IIII)Z"⟩, 18) := ⟨⟨by decide +kernel, by decide +kernel⟩, List.mem_of_getElem? (i := 23) (by decide +kernel), List.mem_of_getElem? (i := 821) (by decide +kernel), List.mem_of_getElem? (i := 822) (by decide +kernel)⟩
theorem lw_p24 : lw_okq (⟨"SameKeeper", "isAtRest", "(I)Z"⟩, 18) := ⟨⟨by decide +kernel, by decide +kernel⟩, List.mem_of_getElem? (i := 23) (by decide +kernel), List.mem_of_getElem? (i := 829) (by decide +kernel), List.mem_of_getElem? (i := 830) (by decide +kernel)⟩
theorem lw_p25 : lw_okq (⟨"SameKeeper", "stepAhead", "()Z"⟩, 18) := ⟨⟨by decide +kernel, by decide +kernel⟩, List.mem_of_getElem? (i := 23) (by decide +kernel), List.mem_of_getElem? (i := 857) (by decide +kernel), List.mem_of_getElem? (i := 858) (by decide +kernel)⟩
theorem lw_p26 : lw_okq (⟨"SameKeeper$Graph", "gainBy", "(II)J"⟩, 9) := ⟨⟨by decide +kernel, by decide +kernel⟩, List.mem_of_getElem? (i := 330) (by decide +kernel), List.mem_of_getElem? (i := 882) (by decide +kernel), List.mem_of_getElem? (i := 883) (by decide +kernel)⟩
theorem lw_p27 : lw_okq (⟨"SameKeeper", "isWordOf", "(II)Z"⟩, 18) := ⟨⟨by decide +kernel, by decide +kernel⟩, List.mem_of_getElem? (i := 23) (by decide +kernel), List.mem_of_getElem? (i := 907) (by decide +kernel), List.mem_of_getElem? (i := 908) (by decide +kernel)⟩
theorem lw_p28 : lw_okq (⟨"SameKeeper", "lookByWord", "(II)Z"⟩, 18) := ⟨⟨by decide +kernel, by decide +kernel⟩, List.mem_of_getElem? (i := 23) (by decide +kernel), List.mem_of_getElem? (i := 911) (by decide +kernel), List.mem_of_getElem? (i := 912) (by decide +kernel)⟩
theorem lw_p29 : lw_okq (⟨"SameKeeper", "tellsRows", "()Z"⟩, 18) := ⟨⟨by decide +kernel, by decide +kernel⟩, List.mem_of_getElem? (i := 23) (by decide +kernel), List.mem_of_getElem? (i := 931) (by decide +kernel), List.mem_of_getElem? (i := 932) (by decide +kernel)⟩
theorem lw_p30 : lw_okq (⟨"SameKeeper", "lookByHeard", "()Z"⟩, 18) := ⟨⟨by decide +kernel, by decide +kernel⟩, List.mem_of_getElem? (i := 23) (by decide +kernel), List.mem_of_getElem? (i := 943) (by decide +kernel), List.mem_of_getElem? (i := 944) (by decide +kernel)⟩
theorem lw_p31 : lw_okq (⟨"SameKeeper", "pass", "(J)V"⟩, 18) := ⟨⟨by decide +kernel, by decide +kernel⟩, List.mem_of_getElem? (i := 23) (by decide +kernel), List.mem_of_getElem? (i := 981) (by decide +kernel), List.mem_of_getElem? (i := 982) (by decide +kernel)⟩
def lw_privs_2 : List (MethodName × Nat) := [(⟨"SameKeeper$Code", "ofOne", "(IJ)J"⟩, 6), (⟨"SameKeeper$Table", "fillDeeds", "(LSameKeeper$Lock;I)V"⟩, 6), (⟨"SameKeeper", "isLocked", "()Z"⟩, 18), (⟨"SameKeeper", "lookAt", "(LSameKeeper$State;)Z"⟩, 18), (⟨"SameKeeper$Graph", "next", "(II)I"⟩, 9), (⟨"SameKeeper", "takeWeek", "(I[I)Z"⟩, 18), (⟨"SameKeeper", "fewest", "(III)I"⟩, 18), (⟨"SameKeeper", "serves", "(IIII)Z"⟩, 18), (⟨"SameKeeper", "isAtRest", "(I)Z"⟩, 18), (⟨"SameKeeper", "stepAhead", "()Z"⟩, 18), (⟨"SameKeeper$Graph", "gainBy", "(II)J"⟩, 9), (⟨"SameKeeper", "isWordOf", "(II)Z"⟩, 18), (⟨"SameKeeper", "lookByWord", "(II)Z"⟩, 18), (⟨"SameKeeper", "tellsRows", "()Z"⟩, 18), (⟨"SameKeeper", "lookByHeard", "()Z"⟩, 18), (⟨"SameKeeper", "pass", "(J)V"⟩, 18)]
theorem lw_r2 : ∀ q ∈ lw_privs_2, lw_okq q := List.forall_mem_cons.mpr ⟨lw_p16, List.forall_mem_cons.mpr ⟨lw_p17, List.forall_mem_cons.mpr ⟨lw_p18, List.forall_mem_cons.mpr ⟨lw_p19, List.forall_mem_cons.mpr ⟨lw_p20, List.forall_mem_cons.mpr ⟨lw_p21, List.forall_mem_cons.mpr ⟨lw_p22, List.forall_mem_cons.mpr ⟨lw_p23, List.forall_mem_cons.mpr ⟨lw_p24, List.forall_mem_cons.mpr ⟨lw_p25, List.forall_mem_cons.mpr ⟨lw_p26, List.forall_mem_cons.mpr ⟨lw_p27, List.forall_mem_cons.mpr ⟨lw_p28, List.forall_mem_cons.mpr ⟨lw_p29, List.forall_mem_cons.mpr ⟨lw_p30, List.forall_mem_cons.mpr ⟨lw_p31, fun _ h => absurd h List.not_mem_nil⟩⟩⟩⟩⟩⟩⟩⟩⟩⟩⟩⟩⟩⟩⟩⟩
theorem lw_p32 : lw_okq (⟨"SameKeeper", "passByChance", "()Z"⟩, 18) := ⟨⟨by decide +kernel, by decide +kernel⟩, List.mem_of_getElem? (i := 23) (by decide +kernel), List.mem_of_getElem? (i := 993) (by decide +kernel), List.mem_of_getElem? (i := 994) (by decide +kernel)⟩
theorem lw_p33 : lw_okq (⟨"SameKeeper", "draw", "(J)J"⟩, 18) := ⟨⟨by decide +kernel, by decide +kernel⟩, List.mem_of_getElem? (i := 23) (by decide +kernel), List.mem_of_getElem? (i := 998) (by decide +kernel), List.mem_of_getElem? (i := 999) (by decide +kernel)⟩
theorem lw_p34 : lw_okq (⟨"SameKeeper$Question", "readTest", "()V"⟩, 4) := ⟨⟨by decide +kernel, by decide +kernel⟩, List.mem_of_getElem? (i := 118) (by decide +kernel), List.mem_of_getElem? (i := 1031) (by decide +kernel), List.mem_of_getElem? (i := 1032) (by decide +kernel)⟩
theorem lw_p35 : lw_okq (⟨"SameKeeper$Question", "readBoth", "()V"⟩, 4) := ⟨⟨by decide +kernel, by decide +kernel⟩, List.mem_of_getElem? (i := 118) (by decide +kernel), List.mem_of_getElem? (i := 1035) (by decide +kernel), List.mem_of_getElem? (i := 1036) (by decide +kernel)⟩
theorem lw_p36 : lw_okq (⟨"SameKeeper$Question", "readFact", "()V"⟩, 4) := ⟨⟨by decide +kernel, by decide +kernel⟩, List.mem_of_getElem? (i := 118) (by decide +kernel), List.mem_of_getElem? (i := 1039) (by decide +kernel), List.mem_of_getElem? (i := 1040) (by decide +kernel)⟩
theorem lw_p37 : lw_okq (⟨"SameKeeper$Question", "isOfDays", "()Z"⟩, 4) := ⟨⟨by decide +kernel, by decide +kernel⟩, List.mem_of_getElem? (i := 118) (by decide +kernel), List.mem_of_getElem? (i := 1061) (by decide +kernel), List.mem_of_getElem? (i := 1062) (by decide +kernel)⟩
theorem lw_p38 : lw_okq (⟨"SameKeeper$Question", "nameDay", "(LSameKeeper$State;LSameKeeper$Graph;II)V"⟩, 4) := ⟨⟨by decide +kernel, by decide +kernel⟩, List.mem_of_getElem? (i := 118) (by decide +kernel), List.mem_of_getElem? (i := 1066) (by decide +kernel), List.mem_of_getElem? (i := 1067) (by decide +kernel)⟩
theorem lw_p39 : lw_okq (⟨"SameKeeper$Question", "joined", "(JJI)J"⟩, 4) := ⟨⟨by decide +kernel, by decide +kernel⟩, List.mem_of_getElem? (i := 118) (by decide +kernel), List.mem_of_getElem? (i := 1078) (by decide +kernel), List.mem_of_getElem? (i := 1079) (by decide +kernel)⟩
theorem lw_p40 : lw_okq (⟨"SameKeeper", "tellsImage", "()Z"⟩, 18) := ⟨⟨by decide +kernel, by decide +kernel⟩, List.mem_of_getElem? (i := 23) (by decide +kernel), List.mem_of_getElem? (i := 1102) (by decide +kernel), List.mem_of_getElem? (i := 1103) (by decide +kernel)⟩
theorem lw_p41 : lw_okq (⟨"SameKeeperModel", "lockTold", "()V"⟩, 92) := ⟨⟨by decide +kernel, by decide +kernel⟩, List.mem_of_getElem? (i := 1110) (by decide +kernel), List.mem_of_getElem? (i := 1407) (by decide +kernel), List.mem_of_getElem? (i := 1408) (by decide +kernel)⟩
theorem lw_p42 : lw_okq (⟨"SameKeeperModel", "asks", "([C)V"⟩, 92) := ⟨⟨by decide +kernel, by decide +kernel⟩, List.mem_of_getElem? (i := 1110) (by decide +kernel), List.mem_of_getElem? (i := 1411) (by decide +kernel), List.mem_of_getElem? (i := 1412) (by decide +kernel)⟩
theorem lw_p43 : lw_okq (⟨"SameKeeperModel", "takes", "([C)Z"⟩, 92) := ⟨⟨by decide +kernel, by decide +kernel⟩, List.mem_of_getElem? (i := 1110) (by decide +kernel), List.mem_of_getElem? (i := 1415) (by decide +kernel), List.mem_of_getElem? (i := 1416) (by decide +kernel)⟩
theorem lw_p44 : lw_okq (⟨"SameKeeperModel", "isHere", "([C)Z"⟩, 92) := ⟨⟨by decide +kernel, by decide +kernel⟩, List.mem_of_getElem? (i := 1110) (by decide +kernel), List.mem_of_getElem? (i := 1419) (by decide +kernel), List.mem_of_getElem? (i := 1420) (by decide +kernel)⟩
theorem lw_p45 : lw_okq (⟨"SameKeeperModel", "look", "()I"⟩, 92) := ⟨⟨by decide +kernel, by decide +kernel⟩, List.mem_of_getElem? (i := 1110) (by decide +kernel), List.mem_of_getElem? (i := 1423) (by decide +kernel), List.mem_of_getElem? (i := 1424) (by decide +kernel)⟩
theorem lw_p46 : lw_okq (⟨"SameKeeperModel", "fail", "(II)V"⟩, 92) := ⟨⟨by decide +kernel, by decide +kernel⟩, List.mem_of_getElem? (i := 1110) (by decide +kernel), List.mem_of_getElem? (i := 1430) (by decide +kernel), List.mem_of_getElem? (i := 1431) (by decide +kernel)⟩
theorem lw_p47 : lw_okq (⟨"SameKeeperModel", "number", "(II)I"⟩, 92) := ⟨⟨by decide +kernel, by decide +kernel⟩, List.mem_of_getElem? (i := 1110) (by decide +kernel), List.mem_of_getElem? (i := 1434) (by decide +kernel), List.mem_of_getElem? (i := 1435) (by decide +kernel)⟩
def lw_privs_3 : List (MethodName × Nat) := [(⟨"SameKeeper", "passByChance", "()Z"⟩, 18), (⟨"SameKeeper", "draw", "(J)J"⟩, 18), (⟨"SameKeeper$Question", "readTest", "()V"⟩, 4), (⟨"SameKeeper$Question", "readBoth", "()V"⟩, 4), (⟨"SameKeeper$Question", "readFact", "()V"⟩, 4), (⟨"SameKeeper$Question", "isOfDays", "()Z"⟩, 4), (⟨"SameKeeper$Question", "nameDay", "(LSameKeeper$State;LSameKeeper$Graph;II)V"⟩, 4), (⟨"SameKeeper$Question", "joined", "(JJI)J"⟩, 4), (⟨"SameKeeper", "tellsImage", "()Z"⟩, 18), (⟨"SameKeeperModel", "lockTold", "()V"⟩, 92), (⟨"SameKeeperModel", "asks", "([C)V"⟩, 92), (⟨"SameKeeperModel", "takes", "([C)Z"⟩, 92), (⟨"SameKeeperModel", "isHere", "([C)Z"⟩, 92), (⟨"SameKeeperModel", "look", "()I"⟩, 92), (⟨"SameKeeperModel", "fail", "(II)V"⟩, 92), (⟨"SameKeeperModel", "number", "(II)I"⟩, 92)]
theorem lw_r3 : ∀ q ∈ lw_privs_3, lw_okq q := List.forall_mem_cons.mpr ⟨lw_p32, List.forall_mem_cons.mpr ⟨lw_p33, List.forall_mem_cons.mpr ⟨lw_p34, List.forall_mem_cons.mpr ⟨lw_p35, List.forall_mem_cons.mpr ⟨lw_p36, List.forall_mem_cons.mpr ⟨lw_p37, List.forall_mem_cons.mpr ⟨lw_p38, List.forall_mem_cons.mpr ⟨lw_p39, List.forall_mem_cons.mpr ⟨lw_p40, List.forall_mem_cons.mpr ⟨lw_p41, List.forall_mem_cons.mpr ⟨lw_p42, List.forall_mem_cons.mpr ⟨lw_p43, List.forall_mem_cons.mpr ⟨lw_p44, List.forall_mem_cons.mpr ⟨lw_p45, List.forall_mem_cons.mpr ⟨lw_p46, List.forall_mem_cons.mpr ⟨lw_p47, fun _ h => absurd h List.not_mem_nil⟩⟩⟩⟩⟩⟩⟩⟩⟩⟩⟩⟩⟩⟩⟩⟩
theorem lw_p48 : lw_okq (⟨"SameKeeperModel", "asksSign", "(I)V"⟩, 92) := ⟨⟨by decide +kernel, by decide +kernel⟩, List.mem_of_getElem? (i := 1110) (by decide +kernel), List.mem_of_getElem? (i := 1444) (by decide +kernel), List.mem_of_getElem? (i := 1445) (by decide +kernel)⟩
theorem lw_p49 : lw_okq (⟨"SameKeeperModel", "takesSign", "(I)Z"⟩, 92) := ⟨⟨by decide +kernel, by decide +kernel⟩, List.mem_of_getElem? (i := 1110) (by decide +kernel), List.mem_of_getElem? (i := 1448) (by decide +kernel), List.mem_of_getElem? (i := 1449) (by decide +kernel)⟩
theorem lw_p50 : lw_okq (⟨"SameKeeperModel", "statementTold", "()V"⟩, 92) := ⟨⟨by decide +kernel, by decide +kernel⟩, List.mem_of_getElem? (i := 1110) (by decide +kernel), List.mem_of_getElem? (i := 1452) (by decide +kernel), List.mem_of_getElem? (i := 1453) (by decide +kernel)⟩
theorem lw_p51 : lw_okq (⟨"SameKeeperModel", "dayTold", "(I)V"⟩, 92) := ⟨⟨by decide +kernel, by decide +kernel⟩, List.mem_of_getElem? (i := 1110) (by decide +kernel), List.mem_of_getElem? (i := 1456) (by decide +kernel), List.mem_of_getElem? (i := 1457) (by decide +kernel)⟩
theorem lw_p52 : lw_okq (⟨"SameKeeperModel", "muteTold", "()V"⟩, 92) := ⟨⟨by decide +kernel, by decide +kernel⟩, List.mem_of_getElem? (i := 1110) (by decide +kernel), List.mem_of_getElem? (i := 1460) (by decide +kernel), List.mem_of_getElem? (i := 1461) (by decide +kernel)⟩
theorem lw_p53 : lw_okq (⟨"SameKeeperModel", "codesTold", "(II)V"⟩, 92) := ⟨⟨by decide +kernel, by decide +kernel⟩, List.mem_of_getElem? (i := 1110) (by decide +kernel), List.mem_of_getElem? (i := 1464) (by decide +kernel), List.mem_of_getElem? (i := 1465) (by decide +kernel)⟩
theorem lw_p54 : lw_okq (⟨"SameKeeperModel", "qSums", "()V"⟩, 92) := ⟨⟨by decide +kernel, by decide +kernel⟩, List.mem_of_getElem? (i := 1110) (by decide +kernel), List.mem_of_getElem? (i := 1468) (by decide +kernel), List.mem_of_getElem? (i := 1469) (by decide +kernel)⟩
theorem lw_p55 : lw_okq (⟨"SameKeeperModel", "qPartTold", "()V"⟩, 92) := ⟨⟨by decide +kernel, by decide +kernel⟩, List.mem_of_getElem? (i := 1110) (by decide +kernel), List.mem_of_getElem? (i := 1472) (by decide +kernel), List.mem_of_getElem? (i := 1473) (by decide +kernel)⟩
theorem lw_p56 : lw_okq (⟨"SameKeeperModel", "qWordOf", "(II)I"⟩, 92) := ⟨⟨by decide +kernel, by decide +kernel⟩, List.mem_of_getElem? (i := 1110) (by decide +kernel), List.mem_of_getElem? (i := 1476) (by decide +kernel), List.mem_of_getElem? (i := 1477) (by decide +kernel)⟩
theorem lw_p57 : lw_okq (⟨"SameKeeperModel", "qWordHere", "()I"⟩, 92) := ⟨⟨by decide +kernel, by decide +kernel⟩, List.mem_of_getElem? (i := 1110) (by decide +kernel), List.mem_of_getElem? (i := 1480) (by decide +kernel), List.mem_of_getElem? (i := 1481) (by decide +kernel)⟩
theorem lw_p58 : lw_okq (⟨"SameKeeperModel", "isAllowed", "(I)Z"⟩, 92) := ⟨⟨by decide +kernel, by decide +kernel⟩, List.mem_of_getElem? (i := 1110) (by decide +kernel), List.mem_of_getElem? (i := 1484) (by decide +kernel), List.mem_of_getElem? (i := 1485) (by decide +kernel)⟩
theorem lw_p59 : lw_okq (⟨"SameKeeperModel", "qOpens", "(II)V"⟩, 92) := ⟨⟨by decide +kernel, by decide +kernel⟩, List.mem_of_getElem? (i := 1110) (by decide +kernel), List.mem_of_getElem? (i := 1488) (by decide +kernel), List.mem_of_getElem? (i := 1489) (by decide +kernel)⟩
theorem lw_p60 : lw_okq (⟨"SameKeeperModel", "qAsksWord", "(I)V"⟩, 92) := ⟨⟨by decide +kernel, by decide +kernel⟩, List.mem_of_getElem? (i := 1110) (by decide +kernel), List.mem_of_getElem? (i := 1492) (by decide +kernel), List.mem_of_getElem? (i := 1493) (by decide +kernel)⟩
theorem lw_p61 : lw_okq (⟨"SameKeeperModel", "qCode", "(I)V"⟩, 92) := ⟨⟨by decide +kernel, by decide +kernel⟩, List.mem_of_getElem? (i := 1110) (by decide +kernel), List.mem_of_getElem? (i := 1496) (by decide +kernel), List.mem_of_getElem? (i := 1497) (by decide +kernel)⟩
theorem lw_p62 : lw_okq (⟨"SameKeeperModel", "qEndsPart", "()V"⟩, 92) := ⟨⟨by decide +kernel, by decide +kernel⟩, List.mem_of_getElem? (i := 1110) (by decide +kernel), List.mem_of_getElem? (i := 1500) (by decide +kernel), List.mem_of_getElem? (i := 1501) (by decide +kernel)⟩
theorem lw_p63 : lw_okq (⟨"SameKeeperModel", "qDrops", "()V"⟩, 92) := ⟨⟨by decide +kernel, by decide +kernel⟩, List.mem_of_getElem? (i := 1110) (by decide +kernel), List.mem_of_getElem? (i := 1504) (by decide +kernel), List.mem_of_getElem? (i := 1505) (by decide +kernel)⟩
def lw_privs_4 : List (MethodName × Nat) := [(⟨"SameKeeperModel", "asksSign", "(I)V"⟩, 92), (⟨"SameKeeperModel", "takesSign", "(I)Z"⟩, 92), (⟨"SameKeeperModel", "statementTold", "()V"⟩, 92), (⟨"SameKeeperModel", "dayTold", "(I)V"⟩, 92), (⟨"SameKeeperModel", "muteTold", "()V"⟩, 92), (⟨"SameKeeperModel", "codesTold", "(II)V"⟩, 92), (⟨"SameKeeperModel", "qSums", "()V"⟩, 92), (⟨"SameKeeperModel", "qPartTold", "()V"⟩, 92), (⟨"SameKeeperModel", "qWordOf", "(II)I"⟩, 92), (⟨"SameKeeperModel", "qWordHere", "()I"⟩, 92), (⟨"SameKeeperModel", "isAllowed", "(I)Z"⟩, 92), (⟨"SameKeeperModel", "qOpens", "(II)V"⟩, 92), (⟨"SameKeeperModel", "qAsksWord", "(I)V"⟩, 92), (⟨"SameKeeperModel", "qCode", "(I)V"⟩, 92), (⟨"SameKeeperModel", "qEndsPart", "()V"⟩, 92), (⟨"SameKeeperModel", "qDrops", "()V"⟩, 92)]
theorem lw_r4 : ∀ q ∈ lw_privs_4, lw_okq q := List.forall_mem_cons.mpr ⟨lw_p48, List.forall_mem_cons.mpr ⟨lw_p49, List.forall_mem_cons.mpr ⟨lw_p50, List.forall_mem_cons.mpr ⟨lw_p51, List.forall_mem_cons.mpr ⟨lw_p52, List.forall_mem_cons.mpr ⟨lw_p53, List.forall_mem_cons.mpr ⟨lw_p54, List.forall_mem_cons.mpr ⟨lw_p55, List.forall_mem_cons.mpr ⟨lw_p56, List.forall_mem_cons.mpr ⟨lw_p57, List.forall_mem_cons.mpr ⟨lw_p58, List.forall_mem_cons.mpr ⟨lw_p59, List.forall_mem_cons.mpr ⟨lw_p60, List.forall_mem_cons.mpr ⟨lw_p61, List.forall_mem_cons.mpr ⟨lw_p62, List.forall_mem_cons.mpr ⟨lw_p63, fun _ h => absurd h List.not_mem_nil⟩⟩⟩⟩⟩⟩⟩⟩⟩⟩⟩⟩⟩⟩⟩⟩
theorem lw_p64 : lw_okq (⟨"SameKeeperModel", "qGoesOn", "()Z"⟩, 92) := ⟨⟨by decide +kernel, by decide +kernel⟩, List.mem_of_getElem? (i := 1110) (by decide +kernel), List.mem_of_getElem? (i := 1508) (by decide +kernel), List.mem_of_getElem? (i := 1509) (by decide +kernel)⟩
theorem lw_p65 : lw_okq (⟨"SameKeeperModel", "qBracket", "()I"⟩, 92) := ⟨⟨by decide +kernel, by decide +kernel⟩, List.mem_of_getElem? (i := 1110) (by decide +kernel), List.mem_of_getElem? (i := 1512) (by decide +kernel), List.mem_of_getElem? (i := 1513) (by decide +kernel)⟩
theorem lw_p66 : lw_okq (⟨"SameKeeperModel", "qDropsToBracket", "()V"⟩, 92) := ⟨⟨by decide +kernel, by decide +kernel⟩, List.mem_of_getElem? (i := 1110) (by decide +kernel), List.mem_of_getElem? (i := 1519) (by decide +kernel), List.mem_of_getElem? (i := 1520) (by decide +kernel)⟩
theorem lw_p67 : lw_okq (⟨"SameKeeperModel", "qIsOn", "(I)Z"⟩, 92) := ⟨⟨by decide +kernel, by decide +kernel⟩, List.mem_of_getElem? (i := 1110) (by decide +kernel), List.mem_of_getElem? (i := 1523) (by decide +kernel), List.mem_of_getElem? (i := 1524) (by decide +kernel)⟩
theorem lw_p68 : lw_okq (⟨"SameKeeperModel", "stands", "()V"⟩, 92) := ⟨⟨by decide +kernel, by decide +kernel⟩, List.mem_of_getElem? (i := 1110) (by decide +kernel), List.mem_of_getElem? (i := 1527) (by decide +kernel), List.mem_of_getElem? (i := 1528) (by decide +kernel)⟩
theorem lw_p69 : lw_okq (⟨"SameKeeperModel", "dayMany", "()I"⟩, 92) := ⟨⟨by decide +kernel, by decide +kernel⟩, List.mem_of_getElem? (i := 1110) (by decide +kernel), List.mem_of_getElem? (i := 1539) (by decide +kernel), List.mem_of_getElem? (i := 1540) (by decide +kernel)⟩
theorem lw_p70 : lw_okq (⟨"SameKeeperModel", "muteSet", "()I"⟩, 92) := ⟨⟨by decide +kernel, by decide +kernel⟩, List.mem_of_getElem? (i := 1110) (by decide +kernel), List.mem_of_getElem? (i := 1543) (by decide +kernel), List.mem_of_getElem? (i := 1544) (by decide +kernel)⟩
theorem lw_p71 : lw_okq (⟨"SameKeeperModel", "isMute", "(I)Z"⟩, 92) := ⟨⟨by decide +kernel, by decide +kernel⟩, List.mem_of_getElem? (i := 1110) (by decide +kernel), List.mem_of_getElem? (i := 1547) (by decide +kernel), List.mem_of_getElem? (i := 1548) (by decide +kernel)⟩
theorem lw_p72 : lw_okq (⟨"SameKeeperModel", "isDay", "(I)Z"⟩, 92) := ⟨⟨by decide +kernel, by decide +kernel⟩, List.mem_of_getElem? (i := 1110) (by decide +kernel), List.mem_of_getElem? (i := 1558) (by decide +kernel), List.mem_of_getElem? (i := 1559) (by decide +kernel)⟩
theorem lw_p73 : lw_okq (⟨"SameKeeperModel", "isMood", "(I)Z"⟩, 92) := ⟨⟨by decide +kernel, by decide +kernel⟩, List.mem_of_getElem? (i := 1110) (by decide +kernel), List.mem_of_getElem? (i := 1567) (by decide +kernel), List.mem_of_getElem? (i := 1568) (by decide +kernel)⟩
theorem lw_p74 : lw_okq (⟨"SameKeeperModel", "wordOf", "(II)I"⟩, 92) := ⟨⟨by decide +kernel, by decide +kernel⟩, List.mem_of_getElem? (i := 1110) (by decide +kernel), List.mem_of_getElem? (i := 1572) (by decide +kernel), List.mem_of_getElem? (i := 1573) (by decide +kernel)⟩
theorem lw_p75 : lw_okq (⟨"SameKeeperModel", "codesTell", "(II)J"⟩, 92) := ⟨⟨by decide +kernel, by decide +kernel⟩, List.mem_of_getElem? (i := 1110) (by decide +kernel), List.mem_of_getElem? (i := 1576) (by decide +kernel), List.mem_of_getElem? (i := 1577) (by decide +kernel)⟩
theorem lw_p76 : lw_okq (⟨"SameKeeperModel", "qPuts", "(J)V"⟩, 92) := ⟨⟨by decide +kernel, by decide +kernel⟩, List.mem_of_getElem? (i := 1110) (by decide +kernel), List.mem_of_getElem? (i := 1580) (by decide +kernel), List.mem_of_getElem? (i := 1581) (by decide +kernel)⟩
theorem lw_p77 : lw_okq (⟨"SameKeeperModel", "qPartOf", "(II)J"⟩, 92) := ⟨⟨by decide +kernel, by decide +kernel⟩, List.mem_of_getElem? (i := 1110) (by decide +kernel), List.mem_of_getElem? (i := 1584) (by decide +kernel), List.mem_of_getElem? (i := 1585) (by decide +kernel)⟩
theorem lw_p78 : lw_okq (⟨"SameKeeperModel", "bargeOf", "(I)I"⟩, 92) := ⟨⟨by decide +kernel, by decide +kernel⟩, List.mem_of_getElem? (i := 1110) (by decide +kernel), List.mem_of_getElem? (i := 1588) (by decide +kernel), List.mem_of_getElem? (i := 1589) (by decide +kernel)⟩
theorem lw_p79 : lw_okq (⟨"SameKeeperModel", "wetOf", "(I)I"⟩, 92) := ⟨⟨by decide +kernel, by decide +kernel⟩, List.mem_of_getElem? (i := 1110) (by decide +kernel), List.mem_of_getElem? (i := 1592) (by decide +kernel), List.mem_of_getElem? (i := 1593) (by decide +kernel)⟩
def lw_privs_5 : List (MethodName × Nat) := [(⟨"SameKeeperModel", "qGoesOn", "()Z"⟩, 92), (⟨"SameKeeperModel", "qBracket", "()I"⟩, 92), (⟨"SameKeeperModel", "qDropsToBracket", "()V"⟩, 92), (⟨"SameKeeperModel", "qIsOn", "(I)Z"⟩, 92), (⟨"SameKeeperModel", "stands", "()V"⟩, 92), (⟨"SameKeeperModel", "dayMany", "()I"⟩, 92), (⟨"SameKeeperModel", "muteSet", "()I"⟩, 92), (⟨"SameKeeperModel", "isMute", "(I)Z"⟩, 92), (⟨"SameKeeperModel", "isDay", "(I)Z"⟩, 92), (⟨"SameKeeperModel", "isMood", "(I)Z"⟩, 92), (⟨"SameKeeperModel", "wordOf", "(II)I"⟩, 92), (⟨"SameKeeperModel", "codesTell", "(II)J"⟩, 92), (⟨"SameKeeperModel", "qPuts", "(J)V"⟩, 92), (⟨"SameKeeperModel", "qPartOf", "(II)J"⟩, 92), (⟨"SameKeeperModel", "bargeOf", "(I)I"⟩, 92), (⟨"SameKeeperModel", "wetOf", "(I)I"⟩, 92)]
theorem lw_r5 : ∀ q ∈ lw_privs_5, lw_okq q := List.forall_mem_cons.mpr ⟨lw_p64, List.forall_mem_cons.mpr ⟨lw_p65, List.forall_mem_cons.mpr ⟨lw_p66, List.forall_mem_cons.mpr ⟨lw_p67, List.forall_mem_cons.mpr ⟨lw_p68, List.forall_mem_cons.mpr ⟨lw_p69, List.forall_mem_cons.mpr ⟨lw_p70, List.forall_mem_cons.mpr ⟨lw_p71, List.forall_mem_cons.mpr ⟨lw_p72, List.forall_mem_cons.mpr ⟨lw_p73, List.forall_mem_cons.mpr ⟨lw_p74, List.forall_mem_cons.mpr ⟨lw_p75, List.forall_mem_cons.mpr ⟨lw_p76, List.forall_mem_cons.mpr ⟨lw_p77, List.forall_mem_cons.mpr ⟨lw_p78, List.forall_mem_cons.mpr ⟨lw_p79, fun _ h => absurd h List.not_mem_nil⟩⟩⟩⟩⟩⟩⟩⟩⟩⟩⟩⟩⟩⟩⟩⟩
theorem lw_p80 : lw_okq (⟨"SameKeeperModel", "qJoins", "(I)V"⟩, 92) := ⟨⟨by decide +kernel, by decide +kernel⟩, List.mem_of_getElem? (i := 1110) (by decide +kernel), List.mem_of_getElem? (i := 1597) (by decide +kernel), List.mem_of_getElem? (i := 1598) (by decide +kernel)⟩
theorem lw_p81 : lw_okq (⟨"SameKeeperModel", "becomesBy", "(IIIZ)I"⟩, 92) := ⟨⟨by decide +kernel, by decide +kernel⟩, List.mem_of_getElem? (i := 1110) (by decide +kernel), List.mem_of_getElem? (i := 1617) (by decide +kernel), List.mem_of_getElem? (i := 1618) (by decide +kernel)⟩
theorem lw_p82 : lw_okq (⟨"SameKeeperModel", "laysAll", "()V"⟩, 92) := ⟨⟨by decide +kernel, by decide +kernel⟩, List.mem_of_getElem? (i := 1110) (by decide +kernel), List.mem_of_getElem? (i := 1630) (by decide +kernel), List.mem_of_getElem? (i := 1631) (by decide +kernel)⟩
theorem lw_p83 : lw_okq (⟨"SameKeeperModel", "laysDays", "(I)V"⟩, 92) := ⟨⟨by decide +kernel, by decide +kernel⟩, List.mem_of_getElem? (i := 1110) (by decide +kernel), List.mem_of_getElem? (i := 1634) (by decide +kernel), List.mem_of_getElem? (i := 1635) (by decide +kernel)⟩
theorem lw_p84 : lw_okq (⟨"SameKeeperModel", "laysWays", "()V"⟩, 92) := ⟨⟨by decide +kernel, by decide +kernel⟩, List.mem_of_getElem? (i := 1110) (by decide +kernel), List.mem_of_getElem? (i := 1638) (by decide +kernel), List.mem_of_getElem? (i := 1639) (by decide +kernel)⟩
theorem lw_p85 : lw_okq (⟨"SameKeeperModel", "canFollow", "(III)Z"⟩, 92) := ⟨⟨by decide +kernel, by decide +kernel⟩, List.mem_of_getElem? (i := 1110) (by decide +kernel), List.mem_of_getElem? (i := 1642) (by decide +kernel), List.mem_of_getElem? (i := 1643) (by decide +kernel)⟩
theorem lw_p86 : lw_okq (⟨"SameKeeperModel", "isMuteNow", "(I)Z"⟩, 92) := ⟨⟨by decide +kernel, by decide +kernel⟩, List.mem_of_getElem? (i := 1110) (by decide +kernel), List.mem_of_getElem? (i := 1646) (by decide +kernel), List.mem_of_getElem? (i := 1647) (by decide +kernel)⟩
theorem lw_p87 : lw_okq (⟨"SameKeeperModel", "isLeft", "(II)Z"⟩, 92) := ⟨⟨by decide +kernel, by decide +kernel⟩, List.mem_of_getElem? (i := 1110) (by decide +kernel), List.mem_of_getElem? (i := 1650) (by decide +kernel), List.mem_of_getElem? (i := 1651) (by decide +kernel)⟩
theorem lw_p88 : lw_okq (⟨"SameKeeperModel", "walksTo", "(J)V"⟩, 92) := ⟨⟨by decide +kernel, by decide +kernel⟩, List.mem_of_getElem? (i := 1110) (by decide +kernel), List.mem_of_getElem? (i := 1658) (by decide +kernel), List.mem_of_getElem? (i := 1659) (by decide +kernel)⟩
theorem lw_p89 : lw_okq (⟨"SameKeeperModel", "doesAgree", "(I)Z"⟩, 92) := ⟨⟨by decide +kernel, by decide +kernel⟩, List.mem_of_getElem? (i := 1110) (by decide +kernel), List.mem_of_getElem? (i := 1670) (by decide +kernel), List.mem_of_getElem? (i := 1671) (by decide +kernel)⟩
theorem lw_p90 : lw_okq (⟨"SameKeeperModel", "isAhead", "(III)Z"⟩, 92) := ⟨⟨by decide +kernel, by decide +kernel⟩, List.mem_of_getElem? (i := 1110) (by decide +kernel), List.mem_of_getElem? (i := 1686) (by decide +kernel), List.mem_of_getElem? (i := 1687) (by decide +kernel)⟩
theorem lw_p91 : lw_okq (⟨"SameKeeperModel", "putsAside", "()V"⟩, 92) := ⟨⟨by decide +kernel, by decide +kernel⟩, List.mem_of_getElem? (i := 1110) (by decide +kernel), List.mem_of_getElem? (i := 1690) (by decide +kernel), List.mem_of_getElem? (i := 1691) (by decide +kernel)⟩
theorem lw_p92 : lw_okq (⟨"SameKeeperModel", "doGo", "()Z"⟩, 92) := ⟨⟨by decide +kernel, by decide +kernel⟩, List.mem_of_getElem? (i := 1110) (by decide +kernel), List.mem_of_getElem? (i := 1694) (by decide +kernel), List.mem_of_getElem? (i := 1695) (by decide +kernel)⟩
theorem lw_p93 : lw_okq (⟨"SameKeeperModel", "goesBy", "(J)V"⟩, 92) := ⟨⟨by decide +kernel, by decide +kernel⟩, List.mem_of_getElem? (i := 1110) (by decide +kernel), List.mem_of_getElem? (i := 1698) (by decide +kernel), List.mem_of_getElem? (i := 1699) (by decide +kernel)⟩
theorem lw_p94 : lw_okq (⟨"SameKeeperModel", "isKept", "()V"⟩, 92) := ⟨⟨by decide +kernel, by decide +kernel⟩, List.mem_of_getElem? (i := 1110) (by decide +kernel), List.mem_of_getElem? (i := 1702) (by decide +kernel), List.mem_of_getElem? (i := 1703) (by decide +kernel)⟩
theorem lw_p95 : lw_okq (⟨"SameKeeperModel", "takesBack", "()V"⟩, 92) := ⟨⟨by decide +kernel, by decide +kernel⟩, List.mem_of_getElem? (i := 1110) (by decide +kernel), List.mem_of_getElem? (i := 1706) (by decide +kernel), List.mem_of_getElem? (i := 1707) (by decide +kernel)⟩
def lw_privs_6 : List (MethodName × Nat) := [(⟨"SameKeeperModel", "qJoins", "(I)V"⟩, 92), (⟨"SameKeeperModel", "becomesBy", "(IIIZ)I"⟩, 92), (⟨"SameKeeperModel", "laysAll", "()V"⟩, 92), (⟨"SameKeeperModel", "laysDays", "(I)V"⟩, 92), (⟨"SameKeeperModel", "laysWays", "()V"⟩, 92), (⟨"SameKeeperModel", "canFollow", "(III)Z"⟩, 92), (⟨"SameKeeperModel", "isMuteNow", "(I)Z"⟩, 92), (⟨"SameKeeperModel", "isLeft", "(II)Z"⟩, 92), (⟨"SameKeeperModel", "walksTo", "(J)V"⟩, 92), (⟨"SameKeeperModel", "doesAgree", "(I)Z"⟩, 92), (⟨"SameKeeperModel", "isAhead", "(III)Z"⟩, 92), (⟨"SameKeeperModel", "putsAside", "()V"⟩, 92), (⟨"SameKeeperModel", "doGo", "()Z"⟩, 92), (⟨"SameKeeperModel", "goesBy", "(J)V"⟩, 92), (⟨"SameKeeperModel", "isKept", "()V"⟩, 92), (⟨"SameKeeperModel", "takesBack", "()V"⟩, 92)]
theorem lw_r6 : ∀ q ∈ lw_privs_6, lw_okq q := List.forall_mem_cons.mpr ⟨lw_p80, List.forall_mem_cons.mpr ⟨lw_p81, List.forall_mem_cons.mpr ⟨lw_p82, List.forall_mem_cons.mpr ⟨lw_p83, List.forall_mem_cons.mpr ⟨lw_p84, List.forall_mem_cons.mpr ⟨lw_p85, List.forall_mem_cons.mpr ⟨lw_p86, List.forall_mem_cons.mpr ⟨lw_p87, List.forall_mem_cons.mpr ⟨lw_p88, List.forall_mem_cons.mpr ⟨lw_p89, List.forall_mem_cons.mpr ⟨lw_p90, List.forall_mem_cons.mpr ⟨lw_p91, List.forall_mem_cons.mpr ⟨lw_p92, List.forall_mem_cons.mpr ⟨lw_p93, List.forall_mem_cons.mpr ⟨lw_p94, List.forall_mem_cons.mpr ⟨lw_p95, fun _ h => absurd h List.not_mem_nil⟩⟩⟩⟩⟩⟩⟩⟩⟩⟩⟩⟩⟩⟩⟩⟩
theorem lw_p96 : lw_okq (⟨"SameKeeperModel", "laysPay", "()V"⟩, 92) := ⟨⟨by decide +kernel, by decide +kernel⟩, List.mem_of_getElem? (i := 1110) (by decide +kernel), List.mem_of_getElem? (i := 1722) (by decide +kernel), List.mem_of_getElem? (i := 1723) (by decide +kernel)⟩
theorem lw_p97 : lw_okq (⟨"SameKeeperModel", "wageOf", "(II)J"⟩, 92) := ⟨⟨by decide +kernel, by decide +kernel⟩, List.mem_of_getElem? (i := 1110) (by decide +kernel), List.mem_of_getElem? (i := 1726) (by decide +kernel), List.mem_of_getElem? (i := 1727) (by decide +kernel)⟩
theorem lw_p98 : lw_okq (⟨"SameKeeperModel", "bestBehind", "(II)I"⟩, 92) := ⟨⟨by decide +kernel, by decide +kernel⟩, List.mem_of_getElem? (i := 1110) (by decide +kernel), List.mem_of_getElem? (i := 1730) (by decide +kernel), List.mem_of_getElem? (i := 1731) (by decide +kernel)⟩
theorem lw_p99 : lw_okq (⟨"SameKeeperModel", "laysRest", "()V"⟩, 92) := ⟨⟨by decide +kernel, by decide +kernel⟩, List.mem_of_getElem? (i := 1110) (by decide +kernel), List.mem_of_getElem? (i := 1742) (by decide +kernel), List.mem_of_getElem? (i := 1743) (by decide +kernel)⟩
theorem lw_p100 : lw_okq (⟨"SameKeeperModel", "isRest", "(I)Z"⟩, 92) := ⟨⟨by decide +kernel, by decide +kernel⟩, List.mem_of_getElem? (i := 1110) (by decide +kernel), List.mem_of_getElem? (i := 1746) (by decide +kernel), List.mem_of_getElem? (i := 1747) (by decide +kernel)⟩
theorem lw_p101 : lw_okq (⟨"SameKeeperModel", "canBeTold", "(II)Z"⟩, 92) := ⟨⟨by decide +kernel, by decide +kernel⟩, List.mem_of_getElem? (i := 1110) (by decide +kernel), List.mem_of_getElem? (i := 1758) (by decide +kernel), List.mem_of_getElem? (i := 1759) (by decide +kernel)⟩
theorem lw_p102 : lw_okq (⟨"SameKeeperModel", "laysByWord", "(II)V"⟩, 92) := ⟨⟨by decide +kernel, by decide +kernel⟩, List.mem_of_getElem? (i := 1110) (by decide +kernel), List.mem_of_getElem? (i := 1762) (by decide +kernel), List.mem_of_getElem? (i := 1763) (by decide +kernel)⟩
theorem lw_p103 : lw_okq (⟨"SameKeeperModel", "moodsOf", "(I)I"⟩, 92) := ⟨⟨by decide +kernel, by decide +kernel⟩, List.mem_of_getElem? (i := 1110) (by decide +kernel), List.mem_of_getElem? (i := 1766) (by decide +kernel), List.mem_of_getElem? (i := 1767) (by decide +kernel)⟩
theorem lw_p104 : lw_okq (⟨"SameKeeperModel", "refuses", "(I)I"⟩, 92) := ⟨⟨by decide +kernel, by decide +kernel⟩, List.mem_of_getElem? (i := 1110) (by decide +kernel), List.mem_of_getElem? (i := 1778) (by decide +kernel), List.mem_of_getElem? (i := 1779) (by decide +kernel)⟩
theorem lw_p105 : lw_okq (⟨"SameKeeperModel", "laysHeard", "()V"⟩, 92) := ⟨⟨by decide +kernel, by decide +kernel⟩, List.mem_of_getElem? (i := 1110) (by decide +kernel), List.mem_of_getElem? (i := 1786) (by decide +kernel), List.mem_of_getElem? (i := 1787) (by decide +kernel)⟩
theorem lw_p106 : lw_okq (⟨"SameKeeperModel", "becomes", "(IIIZ)Z"⟩, 92) := ⟨⟨by decide +kernel, by decide +kernel⟩, List.mem_of_getElem? (i := 1110) (by decide +kernel), List.mem_of_getElem? (i := 1807) (by decide +kernel), List.mem_of_getElem? (i := 1808) (by decide +kernel)⟩
theorem lw_p107 : lw_okq (⟨"SameKeeperModel", "keeps", "()V"⟩, 92) := ⟨⟨by decide +kernel, by decide +kernel⟩, List.mem_of_getElem? (i := 1110) (by decide +kernel), List.mem_of_getElem? (i := 1811) (by decide +kernel), List.mem_of_getElem? (i := 1812) (by decide +kernel)⟩
theorem lw_p108 : lw_okq (⟨"SameKeeperModel", "drawsDays", "()V"⟩, 92) := ⟨⟨by decide +kernel, by decide +kernel⟩, List.mem_of_getElem? (i := 1110) (by decide +kernel), List.mem_of_getElem? (i := 1831) (by decide +kernel), List.mem_of_getElem? (i := 1832) (by decide +kernel)⟩
theorem lw_p109 : lw_okq (⟨"SameKeeperModel", "drawOf", "(J)J"⟩, 92) := ⟨⟨by decide +kernel, by decide +kernel⟩, List.mem_of_getElem? (i := 1110) (by decide +kernel), List.mem_of_getElem? (i := 1836) (by decide +kernel), List.mem_of_getElem? (i := 1837) (by decide +kernel)⟩
theorem lw_p110 : lw_okq (⟨"SameKeeperModel", "qKind", "()I"⟩, 92) := ⟨⟨by decide +kernel, by decide +kernel⟩, List.mem_of_getElem? (i := 1110) (by decide +kernel), List.mem_of_getElem? (i := 1848) (by decide +kernel), List.mem_of_getElem? (i := 1849) (by decide +kernel)⟩
theorem lw_p111 : lw_okq (⟨"SameKeeperModel", "qTest", "()V"⟩, 92) := ⟨⟨by decide +kernel, by decide +kernel⟩, List.mem_of_getElem? (i := 1110) (by decide +kernel), List.mem_of_getElem? (i := 1852) (by decide +kernel), List.mem_of_getElem? (i := 1853) (by decide +kernel)⟩
def lw_privs_7 : List (MethodName × Nat) := [(⟨"SameKeeperModel", "laysPay", "()V"⟩, 92), (⟨"SameKeeperModel", "wageOf", "(II)J"⟩, 92), (⟨"SameKeeperModel", "bestBehind", "(II)I"⟩, 92), (⟨"SameKeeperModel", "laysRest", "()V"⟩, 92), (⟨"SameKeeperModel", "isRest", "(I)Z"⟩, 92), (⟨"SameKeeperModel", "canBeTold", "(II)Z"⟩, 92), (⟨"SameKeeperModel", "laysByWord", "(II)V"⟩, 92), (⟨"SameKeeperModel", "moodsOf", "(I)I"⟩, 92), (⟨"SameKeeperModel", "refuses", "(I)I"⟩, 92), (⟨"SameKeeperModel", "laysHeard", "()V"⟩, 92), (⟨"SameKeeperModel", "becomes", "(IIIZ)Z"⟩, 92), (⟨"SameKeeperModel", "keeps", "()V"⟩, 92), (⟨"SameKeeperModel", "drawsDays", "()V"⟩, 92), (⟨"SameKeeperModel", "drawOf", "(J)J"⟩, 92), (⟨"SameKeeperModel", "qKind", "()I"⟩, 92), (⟨"SameKeeperModel", "qTest", "()V"⟩, 92)]
theorem lw_r7 : ∀ q ∈ lw_privs_7, lw_okq q := List.forall_mem_cons.mpr ⟨lw_p96, List.forall_mem_cons.mpr ⟨lw_p97, List.forall_mem_cons.mpr ⟨lw_p98, List.forall_mem_cons.mpr ⟨lw_p99, List.forall_mem_cons.mpr ⟨lw_p100, List.forall_mem_cons.mpr ⟨lw_p101, List.forall_mem_cons.mpr ⟨lw_p102, List.forall_mem_cons.mpr ⟨lw_p103, List.forall_mem_cons.mpr ⟨lw_p104, List.forall_mem_cons.mpr ⟨lw_p105, List.forall_mem_cons.mpr ⟨lw_p106, List.forall_mem_cons.mpr ⟨lw_p107, List.forall_mem_cons.mpr ⟨lw_p108, List.forall_mem_cons.mpr ⟨lw_p109, List.forall_mem_cons.mpr ⟨lw_p110, List.forall_mem_cons.mpr ⟨lw_p111, fun _ h => absurd h List.not_mem_nil⟩⟩⟩⟩⟩⟩⟩⟩⟩⟩⟩⟩⟩⟩⟩⟩
theorem lw_p112 : lw_okq (⟨"SameKeeperModel", "qFact", "()V"⟩, 92) := ⟨⟨by decide +kernel, by decide +kernel⟩, List.mem_of_getElem? (i := 1110) (by decide +kernel), List.mem_of_getElem? (i := 1856) (by decide +kernel), List.mem_of_getElem? (i := 1857) (by decide +kernel)⟩
theorem lw_p113 : lw_okq (⟨"SameKeeperModel", "qDropsNots", "()V"⟩, 92) := ⟨⟨by decide +kernel, by decide +kernel⟩, List.mem_of_getElem? (i := 1110) (by decide +kernel), List.mem_of_getElem? (i := 1860) (by decide +kernel), List.mem_of_getElem? (i := 1861) (by decide +kernel)⟩
theorem lw_p114 : lw_okq (⟨"SameKeeperModel", "qGoesOnTest", "()Z"⟩, 92) := ⟨⟨by decide +kernel, by decide +kernel⟩, List.mem_of_getElem? (i := 1110) (by decide +kernel), List.mem_of_getElem? (i := 1864) (by decide +kernel), List.mem_of_getElem? (i := 1865) (by decide +kernel)⟩
theorem lw_p115 : lw_okq (⟨"SameKeeperModel", "qHasSquare", "()Z"⟩, 92) := ⟨⟨by decide +kernel, by decide +kernel⟩, List.mem_of_getElem? (i := 1110) (by decide +kernel), List.mem_of_getElem? (i := 1868) (by decide +kernel), List.mem_of_getElem? (i := 1869) (by decide +kernel)⟩
theorem lw_p116 : lw_okq (⟨"SameKeeperModel", "qTold", "(I)J"⟩, 92) := ⟨⟨by decide +kernel, by decide +kernel⟩, List.mem_of_getElem? (i := 1110) (by decide +kernel), List.mem_of_getElem? (i := 1872) (by decide +kernel), List.mem_of_getElem? (i := 1873) (by decide +kernel)⟩
theorem lw_p117 : lw_okq (⟨"SameKeeperModel", "qOf", "(IJI)J"⟩, 92) := ⟨⟨by decide +kernel, by decide +kernel⟩, List.mem_of_getElem? (i := 1110) (by decide +kernel), List.mem_of_getElem? (i := 1876) (by decide +kernel), List.mem_of_getElem? (i := 1877) (by decide +kernel)⟩
theorem lw_p118 : lw_okq (⟨"SameKeeperModel", "qTakes", "(IJI)V"⟩, 92) := ⟨⟨by decide +kernel, by decide +kernel⟩, List.mem_of_getElem? (i := 1110) (by decide +kernel), List.mem_of_getElem? (i := 1880) (by decide +kernel), List.mem_of_getElem? (i := 1881) (by decide +kernel)⟩
theorem lw_p119 : lw_okq (⟨"SameKeeperModel", "writes", "(I)V"⟩, 92) := ⟨⟨by decide +kernel, by decide +kernel⟩, List.mem_of_getElem? (i := 1110) (by decide +kernel), List.mem_of_getElem? (i := 1888) (by decide +kernel), List.mem_of_getElem? (i := 1889) (by decide +kernel)⟩
theorem lw_p120 : lw_okq (⟨"SameKeeperModel", "isImage", "(I)Z"⟩, 92) := ⟨⟨by decide +kernel, by decide +kernel⟩, List.mem_of_getElem? (i := 1110) (by decide +kernel), List.mem_of_getElem? (i := 1903) (by decide +kernel), List.mem_of_getElem? (i := 1904) (by decide +kernel)⟩
def lw_privs_8 : List (MethodName × Nat) := [(⟨"SameKeeperModel", "qFact", "()V"⟩, 92), (⟨"SameKeeperModel", "qDropsNots", "()V"⟩, 92), (⟨"SameKeeperModel", "qGoesOnTest", "()Z"⟩, 92), (⟨"SameKeeperModel", "qHasSquare", "()Z"⟩, 92), (⟨"SameKeeperModel", "qTold", "(I)J"⟩, 92), (⟨"SameKeeperModel", "qOf", "(IJI)J"⟩, 92), (⟨"SameKeeperModel", "qTakes", "(IJI)V"⟩, 92), (⟨"SameKeeperModel", "writes", "(I)V"⟩, 92), (⟨"SameKeeperModel", "isImage", "(I)Z"⟩, 92)]
theorem lw_r8 : ∀ q ∈ lw_privs_8, lw_okq q := List.forall_mem_cons.mpr ⟨lw_p112, List.forall_mem_cons.mpr ⟨lw_p113, List.forall_mem_cons.mpr ⟨lw_p114, List.forall_mem_cons.mpr ⟨lw_p115, List.forall_mem_cons.mpr ⟨lw_p116, List.forall_mem_cons.mpr ⟨lw_p117, List.forall_mem_cons.mpr ⟨lw_p118, List.forall_mem_cons.mpr ⟨lw_p119, List.forall_mem_cons.mpr ⟨lw_p120, fun _ h => absurd h List.not_mem_nil⟩⟩⟩⟩⟩⟩⟩⟩⟩
def lw_privs : List (MethodName × Nat) := lw_privs_1 ++ (lw_privs_2 ++ (lw_privs_3 ++ (lw_privs_4 ++ (lw_privs_5 ++ (lw_privs_6 ++ (lw_privs_7 ++ (lw_privs_8)))))))
def lw_tbl : List Cond := k2_sels lw_privs ++ tables_1
theorem lw_privs_ok : ∀ q ∈ lw_privs, lw_okq q := by
  show ∀ q ∈ lw_privs_1 ++ (lw_privs_2 ++ (lw_privs_3 ++ (lw_privs_4 ++ (lw_privs_5 ++ (lw_privs_6 ++ (lw_privs_7 ++ (lw_privs_8))))))), lw_okq q
  exact List.forall_mem_append.mpr ⟨lw_r1, List.forall_mem_append.mpr ⟨lw_r2, List.forall_mem_append.mpr ⟨lw_r3, List.forall_mem_append.mpr ⟨lw_r4, List.forall_mem_append.mpr ⟨lw_r5, List.forall_mem_append.mpr ⟨lw_r6, List.forall_mem_append.mpr ⟨lw_r7, lw_r8⟩⟩⟩⟩⟩⟩⟩
-- ===== end of PART A; then your names; then what follows =====
end
section
/-! ===== BEGIN words of one list among another's, by their places ===== -/
theorem goodIn_r {big : List Cond} (ws : List Cond) (ps : List Nat) (hp : ws = ps.filterMap (fun i => big[i]?)) (h : ws.all goodWord = true) : GoodIn big ws := by
  intro w hw
  have h1 := List.all_eq_true.mp h w hw
  rw [hp] at hw
  obtain ⟨i, -, hi⟩ := List.mem_filterMap.mp hw
  have hm : w ∈ big := by first | exact List.mem_of_getElem? hi | exact List.getElem?_mem hi
  exact ⟨hm, good_of_word h1⟩
theorem goodIn_app {big a b : List Cond} (ha : GoodIn big a) (hb : GoodIn big b) : GoodIn big (a ++ b) := fun w h => (List.mem_append.mp h).elim (ha w) (hb w)
theorem goodIn_ca {big a b : List Cond} {c : Cond} (ha : GoodIn big (c :: a)) (hb : GoodIn big b) : GoodIn big (c :: (a ++ b)) := fun w h => (List.mem_cons.mp h).elim (fun e => ha w (List.mem_cons.mpr (Or.inl e))) (fun h => (List.mem_append.mp h).elim (fun h => ha w (List.mem_cons.mpr (Or.inr h))) (hb w))
theorem goodIn_sub {big ws : List Cond} (hm : ∀ w ∈ ws, w ∈ big) (h : ws.all goodWord = true) : GoodIn big ws := fun w hw => ⟨hm w hw, good_of_word (List.all_eq_true.mp h w hw)⟩
/-! ===== END ===== -/

def RX0 : String := "SameKeeper$Code"
def TX0 : u_T := fun k => match k with
  | 0 => ("SameKeeper$Code", "steps", "[I", true)
  | 1 => ("SameKeeper$Code", "stack", "[J", true)
  | 2 => ("SameKeeper$Code", "names", "[J", true)
  | 3 => ("SameKeeper$Code", "counts", "[J", true)
  | 4 => ("SameKeeper$Code", "length", "I", false)
  | _ => ("SameKeeper$Code", "mindsWeek", "Z", false)
def tyX0 : Nat → FieldType := fun k => match k with
  | 0 => .array .int
  | 1 => .array .long
  | 2 => .array .long
  | 3 => .array .long
  | 4 => .int
  | _ => .boolean
abbrev wsX00 : List Cond := u_ws RX0 TX0 6
theorem nmX0 : ∀ a, a < 6 → ∀ b, b < 6 → a ≠ b → (TX0 a).2.1 ≠ (TX0 b).2.1 := by decide +kernel
theorem tyX0_ok : ∀ k, k < 6 → parseFieldDescriptor (TX0 k).2.2.1 = some (tyX0 k) := by decide +kernel
abbrev cX0_init : ByteArray := prog_2_method_1_code
def yX0_init : MethodName := ⟨RX0, "<init>", "()V"⟩
abbrev cX0_clear : ByteArray := prog_2_method_2_code
def yX0_clear : MethodName := ⟨RX0, "clear", "()V"⟩
abbrev cX0_add : ByteArray := prog_2_method_3_code
def yX0_add : MethodName := ⟨RX0, "add", "(I)V"⟩
abbrev cX0_name : ByteArray := prog_2_method_4_code
def yX0_name : MethodName := ⟨RX0, "name", "(IJ)V"⟩
abbrev cX0_nameCount : ByteArray := prog_2_method_5_code
def yX0_nameCount : MethodName := ⟨RX0, "nameCount", "(IJ)V"⟩
abbrev cX0_run : ByteArray := prog_2_method_6_code
def yX0_run : MethodName := ⟨RX0, "run", "(II)J"⟩
abbrev cX0_ofOne : ByteArray := prog_2_method_7_code
def yX0_ofOne : MethodName := ⟨RX0, "ofOne", "(IJ)J"⟩
abbrev cX0_ofTwo : ByteArray := prog_2_method_8_code
def yX0_ofTwo : MethodName := ⟨RX0, "ofTwo", "(IJJ)J"⟩
abbrev cX0_bounded : ByteArray := prog_2_method_9_code
def yX0_bounded : MethodName := ⟨RX0, "bounded", "(J)J"⟩
def RX1 : String := "SameKeeper$Graph"
def TX1 : u_T := fun k => match k with
  | 0 => ("SameKeeper$Graph", "table", "LSameKeeper$Table;", true)
  | 1 => ("SameKeeper$Graph", "leads", "[I", true)
  | 2 => ("SameKeeper$Graph", "allowed", "[I", true)
  | 3 => ("SameKeeper$Graph", "live", "[I", true)
  | 4 => ("SameKeeper$Graph", "ways", "[J", true)
  | 5 => ("SameKeeper$Graph", "comings", "[J", true)
  | 6 => ("SameKeeper$Graph", "gains", "[J", true)
  | 7 => ("SameKeeper$Graph", "days", "I", false)
  | _ => ("SameKeeper$Graph", "start", "I", false)
def tyX1 : Nat → FieldType := fun k => match k with
  | 0 => .object "SameKeeper$Table"
  | 1 => .array .int
  | 2 => .array .int
  | 3 => .array .int
  | 4 => .array .long
  | 5 => .array .long
  | 6 => .array .long
  | 7 => .int
  | _ => .int
abbrev wsX10 : List Cond := u_ws RX1 TX1 9
theorem nmX1 : ∀ a, a < 9 → ∀ b, b < 9 → a ≠ b → (TX1 a).2.1 ≠ (TX1 b).2.1 := by decide +kernel
theorem tyX1_ok : ∀ k, k < 9 → parseFieldDescriptor (TX1 k).2.2.1 = some (tyX1 k) := by decide +kernel
abbrev cX1_init : ByteArray := prog_3_method_1_code
def yX1_init : MethodName := ⟨RX1, "<init>", "(LSameKeeper$Table;)V"⟩
abbrev cX1_lay : ByteArray := prog_3_method_2_code
def yX1_lay : MethodName := ⟨RX1, "lay", "(LSameKeeper$State;II)V"⟩
abbrev cX1_allowOnly : ByteArray := prog_3_method_3_code
def yX1_allowOnly : MethodName := ⟨RX1, "allowOnly", "(II)V"⟩
abbrev cX1_settle : ByteArray := prog_3_method_4_code
def yX1_settle : MethodName := ⟨RX1, "settle", "()Z"⟩
abbrev cX1_next : ByteArray := prog_3_method_5_code
def yX1_next : MethodName := ⟨RX1, "next", "(II)I"⟩
abbrev cX1_moodsOf : ByteArray := prog_3_method_6_code
def yX1_moodsOf : MethodName := ⟨RX1, "moodsOf", "(I)I"⟩
abbrev cX1_takeFirst : ByteArray := prog_3_method_7_code
def yX1_takeFirst : MethodName := ⟨RX1, "takeFirst", "([I)V"⟩
abbrev cX1_countWays : ByteArray := prog_3_method_8_code
def yX1_countWays : MethodName := ⟨RX1, "countWays", "()J"⟩
abbrev cX1_countComings : ByteArray := prog_3_method_9_code
def yX1_countComings : MethodName := ⟨RX1, "countComings", "()V"⟩
abbrev cX1_timesOf : ByteArray := prog_3_method_10_code
def yX1_timesOf : MethodName := ⟨RX1, "timesOf", "(II)J"⟩
abbrev cX1_mostLeft : ByteArray := prog_3_method_11_code
def yX1_mostLeft : MethodName := ⟨RX1, "mostLeft", "(I)J"⟩
abbrev cX1_takeNumbered : ByteArray := prog_3_method_12_code
def yX1_takeNumbered : MethodName := ⟨RX1, "takeNumbered", "(J[I)V"⟩
abbrev cX1_bestPay : ByteArray := prog_3_method_13_code
def yX1_bestPay : MethodName := ⟨RX1, "bestPay", "()J"⟩
abbrev cX1_gainBy : ByteArray := prog_3_method_14_code
def yX1_gainBy : MethodName := ⟨RX1, "gainBy", "(II)J"⟩
abbrev cX1_takeBestPaid : ByteArray := prog_3_method_15_code
def yX1_takeBestPaid : MethodName := ⟨RX1, "takeBestPaid", "([I)V"⟩
def RX2 : String := "SameKeeper$Lock"
def TX2 : u_T := fun k => match k with
  | 0 => ("SameKeeper$Lock", "code", "LSameKeeper$Code;", true)
  | 1 => ("SameKeeper$Lock", "barge", "[I", true)
  | 2 => ("SameKeeper$Lock", "wet", "[I", true)
  | 3 => ("SameKeeper$Lock", "from", "[I", true)
  | 4 => ("SameKeeper$Lock", "to", "[I", true)
  | 5 => ("SameKeeper$Lock", "days", "I", false)
  | 6 => ("SameKeeper$Lock", "mood", "I", false)
  | 7 => ("SameKeeper$Lock", "mute", "I", false)
  | 8 => ("SameKeeper$Lock", "rain", "I", false)
  | _ => ("SameKeeper$Lock", "statements", "I", false)
def tyX2 : Nat → FieldType := fun k => match k with
  | 0 => .object "SameKeeper$Code"
  | 1 => .array .int
  | 2 => .array .int
  | 3 => .array .int
  | 4 => .array .int
  | 5 => .int
  | 6 => .int
  | 7 => .int
  | 8 => .int
  | _ => .int
abbrev wsX20 : List Cond := u_ws RX2 TX2 10
theorem nmX2 : ∀ a, a < 10 → ∀ b, b < 10 → a ≠ b → (TX2 a).2.1 ≠ (TX2 b).2.1 := by decide +kernel
theorem tyX2_ok : ∀ k, k < 10 → parseFieldDescriptor (TX2 k).2.2.1 = some (tyX2 k) := by decide +kernel
abbrev cX2_init : ByteArray := prog_4_method_1_code
def yX2_init : MethodName := ⟨RX2, "<init>", "()V"⟩
abbrev cX2_clear : ByteArray := prog_4_method_2_code
def yX2_clear : MethodName := ⟨RX2, "clear", "()V"⟩
abbrev cX2_hasSum : ByteArray := prog_4_method_3_code
def yX2_hasSum : MethodName := ⟨RX2, "hasSum", "(I)Z"⟩
abbrev cX2_beginSum : ByteArray := prog_4_method_4_code
def yX2_beginSum : MethodName := ⟨RX2, "beginSum", "(I)V"⟩
abbrev cX2_endSum : ByteArray := prog_4_method_5_code
def yX2_endSum : MethodName := ⟨RX2, "endSum", "(I)V"⟩
abbrev cX2_addUntold : ByteArray := prog_4_method_6_code
def yX2_addUntold : MethodName := ⟨RX2, "addUntold", "()V"⟩
def RX3 : String := "SameKeeper$LockText"
def TX3 : u_T := fun k => match k with
  | 0 => ("SameKeeper$LockText", "reader", "LSameKeeper$Reader;", true)
  | 1 => ("SameKeeper$LockText", "ofMood", "LSameKeeper$Sums;", true)
  | _ => ("SameKeeper$LockText", "ofDeed", "LSameKeeper$Sums;", true)
def tyX3 : Nat → FieldType := fun k => match k with
  | 0 => .object "SameKeeper$Reader"
  | 1 => .object "SameKeeper$Sums"
  | _ => .object "SameKeeper$Sums"
abbrev wsX30 : List Cond := u_ws RX3 TX3 3
theorem nmX3 : ∀ a, a < 3 → ∀ b, b < 3 → a ≠ b → (TX3 a).2.1 ≠ (TX3 b).2.1 := by decide +kernel
theorem tyX3_ok : ∀ k, k < 3 → parseFieldDescriptor (TX3 k).2.2.1 = some (tyX3 k) := by decide +kernel
abbrev cX3_init : ByteArray := prog_5_method_1_code
def yX3_init : MethodName := ⟨RX3, "<init>", "(LSameKeeper$Reader;)V"⟩
abbrev cX3_read : ByteArray := prog_5_method_2_code
def yX3_read : MethodName := ⟨RX3, "read", "(LSameKeeper$Lock;)V"⟩
abbrev cX3_readOpening : ByteArray := prog_5_method_3_code
def yX3_readOpening : MethodName := ⟨RX3, "readOpening", "(LSameKeeper$Lock;)V"⟩
abbrev cX3_readNumbers : ByteArray := prog_5_method_4_code
def yX3_readNumbers : MethodName := ⟨RX3, "readNumbers", "(LSameKeeper$Lock;)V"⟩
abbrev cX3_readSumOf : ByteArray := prog_5_method_5_code
def yX3_readSumOf : MethodName := ⟨RX3, "readSumOf", "(LSameKeeper$Lock;ILSameKeeper$Sums;)V"⟩
abbrev cX3_readAmount : ByteArray := prog_5_method_6_code
def yX3_readAmount : MethodName := ⟨RX3, "readAmount", "(LSameKeeper$Lock;[I)V"⟩
abbrev cX3_readMute : ByteArray := prog_5_method_7_code
def yX3_readMute : MethodName := ⟨RX3, "readMute", "(LSameKeeper$Lock;)V"⟩
def RX4 : String := "SameKeeper$Past"
def TX4 : u_T := fun k => match k with
  | 0 => ("SameKeeper$Past", "states", "[LSameKeeper$State;", true)
  | 1 => ("SameKeeper$Past", "acts", "I", false)
  | 2 => ("SameKeeper$Past", "weekOf", "[I", true)
  | 3 => ("SameKeeper$Past", "agreedOf", "[J", true)
  | _ => ("SameKeeper$Past", "moodOf", "[I", true)
def tyX4 : Nat → FieldType := fun k => match k with
  | 0 => .array (.object "SameKeeper$State")
  | 1 => .int
  | 2 => .array .int
  | 3 => .array .long
  | _ => .array .int
abbrev wsX40 : List Cond := u_ws RX4 TX4 5
theorem nmX4 : ∀ a, a < 5 → ∀ b, b < 5 → a ≠ b → (TX4 a).2.1 ≠ (TX4 b).2.1 := by decide +kernel
theorem tyX4_ok : ∀ k, k < 5 → parseFieldDescriptor (TX4 k).2.2.1 = some (tyX4 k) := by decide +kernel
abbrev cX4_init : ByteArray := prog_6_method_1_code
def yX4_init : MethodName := ⟨RX4, "<init>", "()V"⟩
abbrev cX4_forget : ByteArray := prog_6_method_2_code
def yX4_forget : MethodName := ⟨RX4, "forget", "()V"⟩
abbrev cX4_save : ByteArray := prog_6_method_3_code
def yX4_save : MethodName := ⟨RX4, "save", "(LSameKeeper$State;)V"⟩
abbrev cX4_restore : ByteArray := prog_6_method_4_code
def yX4_restore : MethodName := ⟨RX4, "restore", "(LSameKeeper$State;)Z"⟩
abbrev cX4_keep : ByteArray := prog_6_method_5_code
def yX4_keep : MethodName := ⟨RX4, "keep", "(LSameKeeper$State;JI)V"⟩
abbrev cX4_toldOf : ByteArray := prog_6_method_6_code
def yX4_toldOf : MethodName := ⟨RX4, "toldOf", "(I)I"⟩
abbrev cX4_ofKept : ByteArray := prog_6_method_7_code
def yX4_ofKept : MethodName := ⟨RX4, "ofKept", "(II)J"⟩
def RX5 : String := "SameKeeper$Question"
def TX5 : u_T := fun k => match k with
  | 0 => ("SameKeeper$Question", "reader", "LSameKeeper$Reader;", true)
  | 1 => ("SameKeeper$Question", "sums", "LSameKeeper$Sums;", true)
  | 2 => ("SameKeeper$Question", "code", "LSameKeeper$Code;", true)
  | _ => ("SameKeeper$Question", "verb", "I", false)
def tyX5 : Nat → FieldType := fun k => match k with
  | 0 => .object "SameKeeper$Reader"
  | 1 => .object "SameKeeper$Sums"
  | 2 => .object "SameKeeper$Code"
  | _ => .int
abbrev wsX50 : List Cond := u_ws RX5 TX5 4
theorem nmX5 : ∀ a, a < 4 → ∀ b, b < 4 → a ≠ b → (TX5 a).2.1 ≠ (TX5 b).2.1 := by decide +kernel
theorem tyX5_ok : ∀ k, k < 4 → parseFieldDescriptor (TX5 k).2.2.1 = some (tyX5 k) := by decide +kernel
abbrev cX5_init : ByteArray := prog_7_method_1_code
def yX5_init : MethodName := ⟨RX5, "<init>", "(LSameKeeper$Reader;)V"⟩
abbrev cX5_read : ByteArray := prog_7_method_2_code
def yX5_read : MethodName := ⟨RX5, "read", "()V"⟩
abbrev cX5_readTest : ByteArray := prog_7_method_3_code
def yX5_readTest : MethodName := ⟨RX5, "readTest", "()V"⟩
abbrev cX5_readBoth : ByteArray := prog_7_method_4_code
def yX5_readBoth : MethodName := ⟨RX5, "readBoth", "()V"⟩
abbrev cX5_readFact : ByteArray := prog_7_method_5_code
def yX5_readFact : MethodName := ⟨RX5, "readFact", "()V"⟩
abbrev cX5_stepOf : ByteArray := prog_7_method_6_code
def yX5_stepOf : MethodName := ⟨RX5, "stepOf", "(I)I"⟩
abbrev cX5_answer : ByteArray := prog_7_method_7_code
def yX5_answer : MethodName := ⟨RX5, "answer", "(LSameKeeper$State;LSameKeeper$Graph;[I)J"⟩
abbrev cX5_isOfDays : ByteArray := prog_7_method_8_code
def yX5_isOfDays : MethodName := ⟨RX5, "isOfDays", "()Z"⟩
abbrev cX5_nameDay : ByteArray := prog_7_method_9_code
def yX5_nameDay : MethodName := ⟨RX5, "nameDay", "(LSameKeeper$State;LSameKeeper$Graph;II)V"⟩
abbrev cX5_joined : ByteArray := prog_7_method_10_code
def yX5_joined : MethodName := ⟨RX5, "joined", "(JJI)J"⟩
def RX6 : String := "SameKeeper$Reader"
def TX6 : u_T := fun k => match k with
  | 0 => ("SameKeeper$Reader", "tape", "LSameKeeper$Tape;", true)
  | 1 => ("SameKeeper$Reader", "at", "I", false)
  | 2 => ("SameKeeper$Reader", "value", "I", false)
  | 3 => ("SameKeeper$Reader", "open", "I", false)
  | 4 => ("SameKeeper$Reader", "token", "I", false)
  | 5 => ("SameKeeper$Reader", "start", "I", false)
  | 6 => ("SameKeeper$Reader", "fault", "I", false)
  | _ => ("SameKeeper$Reader", "place", "I", false)
def tyX6 : Nat → FieldType := fun k => match k with
  | 0 => .object "SameKeeper$Tape"
  | 1 => .int
  | 2 => .int
  | 3 => .int
  | 4 => .int
  | 5 => .int
  | 6 => .int
  | _ => .int
abbrev wsX60 : List Cond := u_ws RX6 TX6 8
theorem nmX6 : ∀ a, a < 8 → ∀ b, b < 8 → a ≠ b → (TX6 a).2.1 ≠ (TX6 b).2.1 := by decide +kernel
theorem tyX6_ok : ∀ k, k < 8 → parseFieldDescriptor (TX6 k).2.2.1 = some (tyX6 k) := by decide +kernel
abbrev cX6_init : ByteArray := prog_8_method_1_code
def yX6_init : MethodName := ⟨RX6, "<init>", "(LSameKeeper$Tape;)V"⟩
abbrev cX6_begin : ByteArray := prog_8_method_2_code
def yX6_begin : MethodName := ⟨RX6, "begin", "()V"⟩
abbrev cX6_fail : ByteArray := prog_8_method_3_code
def yX6_fail : MethodName := ⟨RX6, "fail", "(II)V"⟩
abbrev cX6_failHere : ByteArray := prog_8_method_4_code
def yX6_failHere : MethodName := ⟨RX6, "failHere", "()V"⟩
abbrev cX6_step : ByteArray := prog_8_method_5_code
def yX6_step : MethodName := ⟨RX6, "step", "()V"⟩
abbrev cX6_readWord : ByteArray := prog_8_method_6_code
def yX6_readWord : MethodName := ⟨RX6, "readWord", "()V"⟩
abbrev cX6_readNumber : ByteArray := prog_8_method_7_code
def yX6_readNumber : MethodName := ⟨RX6, "readNumber", "()V"⟩
abbrev cX6_takes : ByteArray := prog_8_method_8_code
def yX6_takes : MethodName := ⟨RX6, "takes", "(I)Z"⟩
abbrev cX6_needs : ByteArray := prog_8_method_9_code
def yX6_needs : MethodName := ⟨RX6, "needs", "(I)V"⟩
abbrev cX6_takeNumber : ByteArray := prog_8_method_10_code
def yX6_takeNumber : MethodName := ⟨RX6, "takeNumber", "(II)I"⟩
abbrev cX6_opens : ByteArray := prog_8_method_11_code
def yX6_opens : MethodName := ⟨RX6, "opens", "(I)Z"⟩
abbrev cX6_shuts : ByteArray := prog_8_method_12_code
def yX6_shuts : MethodName := ⟨RX6, "shuts", "()V"⟩
def RX7 : String := "SameKeeper$State"
def TX7 : u_T := fun k => match k with
  | 0 => ("SameKeeper$State", "barge", "[I", true)
  | 1 => ("SameKeeper$State", "wet", "[I", true)
  | 2 => ("SameKeeper$State", "days", "I", false)
  | 3 => ("SameKeeper$State", "week", "I", false)
  | 4 => ("SameKeeper$State", "mood", "I", false)
  | 5 => ("SameKeeper$State", "mute", "I", false)
  | _ => ("SameKeeper$State", "kept", "I", false)
def tyX7 : Nat → FieldType := fun k => match k with
  | 0 => .array .int
  | 1 => .array .int
  | 2 => .int
  | 3 => .int
  | 4 => .int
  | 5 => .int
  | _ => .int
abbrev wsX70 : List Cond := u_ws RX7 TX7 7
theorem nmX7 : ∀ a, a < 7 → ∀ b, b < 7 → a ≠ b → (TX7 a).2.1 ≠ (TX7 b).2.1 := by decide +kernel
theorem tyX7_ok : ∀ k, k < 7 → parseFieldDescriptor (TX7 k).2.2.1 = some (tyX7 k) := by decide +kernel
abbrev cX7_init : ByteArray := prog_9_method_1_code
def yX7_init : MethodName := ⟨RX7, "<init>", "()V"⟩
abbrev cX7_begin : ByteArray := prog_9_method_2_code
def yX7_begin : MethodName := ⟨RX7, "begin", "(LSameKeeper$Lock;)V"⟩
abbrev cX7_copy : ByteArray := prog_9_method_3_code
def yX7_copy : MethodName := ⟨RX7, "copy", "(LSameKeeper$State;)V"⟩
abbrev cX7_isMute : ByteArray := prog_9_method_4_code
def yX7_isMute : MethodName := ⟨RX7, "isMute", "(I)Z"⟩
abbrev cX7_amount : ByteArray := prog_9_method_5_code
def yX7_amount : MethodName := ⟨RX7, "amount", "(II)I"⟩
abbrev cX7_put : ByteArray := prog_9_method_6_code
def yX7_put : MethodName := ⟨RX7, "put", "(III)V"⟩
def RX8 : String := "SameKeeper$Sums"
def TX8 : u_T := fun k => match k with
  | 0 => ("SameKeeper$Sums", "reader", "LSameKeeper$Reader;", true)
  | _ => ("SameKeeper$Sums", "kind", "I", true)
def tyX8 : Nat → FieldType := fun k => match k with
  | 0 => .object "SameKeeper$Reader"
  | _ => .int
abbrev wsX80 : List Cond := u_ws RX8 TX8 2
theorem nmX8 : ∀ a, a < 2 → ∀ b, b < 2 → a ≠ b → (TX8 a).2.1 ≠ (TX8 b).2.1 := by decide +kernel
theorem tyX8_ok : ∀ k, k < 2 → parseFieldDescriptor (TX8 k).2.2.1 = some (tyX8 k) := by decide +kernel
abbrev cX8_init : ByteArray := prog_10_method_1_code
def yX8_init : MethodName := ⟨RX8, "<init>", "(LSameKeeper$Reader;I)V"⟩
abbrev cX8_read : ByteArray := prog_10_method_2_code
def yX8_read : MethodName := ⟨RX8, "read", "(LSameKeeper$Code;)V"⟩
abbrev cX8_readSum : ByteArray := prog_10_method_3_code
def yX8_readSum : MethodName := ⟨RX8, "readSum", "(LSameKeeper$Code;)V"⟩
abbrev cX8_readProduct : ByteArray := prog_10_method_4_code
def yX8_readProduct : MethodName := ⟨RX8, "readProduct", "(LSameKeeper$Code;)V"⟩
abbrev cX8_readPart : ByteArray := prog_10_method_5_code
def yX8_readPart : MethodName := ⟨RX8, "readPart", "(LSameKeeper$Code;)V"⟩
abbrev cX8_readPair : ByteArray := prog_10_method_6_code
def yX8_readPair : MethodName := ⟨RX8, "readPair", "(LSameKeeper$Code;I)V"⟩
abbrev cX8_nameInLock : ByteArray := prog_10_method_7_code
def yX8_nameInLock : MethodName := ⟨RX8, "nameInLock", "(I)I"⟩
abbrev cX8_nameInQuestion : ByteArray := prog_10_method_8_code
def yX8_nameInQuestion : MethodName := ⟨RX8, "nameInQuestion", "(I)I"⟩
def RX9 : String := "SameKeeper$Table"
def TX9 : u_T := fun k => match k with
  | 0 => ("SameKeeper$Table", "said", "[I", true)
  | 1 => ("SameKeeper$Table", "turned", "[I", true)
  | 2 => ("SameKeeper$Table", "alone", "[I", true)
  | 3 => ("SameKeeper$Table", "open", "[I", true)
  | 4 => ("SameKeeper$Table", "wages", "[J", true)
  | _ => ("SameKeeper$Table", "keys", "[I", true)
def tyX9 : Nat → FieldType := fun k => match k with
  | 0 => .array .int
  | 1 => .array .int
  | 2 => .array .int
  | 3 => .array .int
  | 4 => .array .long
  | _ => .array .int
abbrev wsX90 : List Cond := u_ws RX9 TX9 6
theorem nmX9 : ∀ a, a < 6 → ∀ b, b < 6 → a ≠ b → (TX9 a).2.1 ≠ (TX9 b).2.1 := by decide +kernel
theorem tyX9_ok : ∀ k, k < 6 → parseFieldDescriptor (TX9 k).2.2.1 = some (tyX9 k) := by decide +kernel
abbrev cX9_init : ByteArray := prog_11_method_1_code
def yX9_init : MethodName := ⟨RX9, "<init>", "()V"⟩
abbrev cX9_forget : ByteArray := prog_11_method_2_code
def yX9_forget : MethodName := ⟨RX9, "forget", "()V"⟩
abbrev cX9_fit : ByteArray := prog_11_method_3_code
def yX9_fit : MethodName := ⟨RX9, "fit", "(LSameKeeper$Lock;LSameKeeper$State;)V"⟩
abbrev cX9_nameDay : ByteArray := prog_11_method_4_code
def yX9_nameDay : MethodName := ⟨RX9, "nameDay", "(LSameKeeper$Code;LSameKeeper$State;I)V"⟩
abbrev cX9_fillWords : ByteArray := prog_11_method_5_code
def yX9_fillWords : MethodName := ⟨RX9, "fillWords", "(LSameKeeper$Lock;I)V"⟩
abbrev cX9_fillDeeds : ByteArray := prog_11_method_6_code
def yX9_fillDeeds : MethodName := ⟨RX9, "fillDeeds", "(LSameKeeper$Lock;I)V"⟩
abbrev cX9_moodsBehind : ByteArray := prog_11_method_7_code
def yX9_moodsBehind : MethodName := ⟨RX9, "moodsBehind", "(III)I"⟩
abbrev cX9_moodsThatSay : ByteArray := prog_11_method_8_code
def yX9_moodsThatSay : MethodName := ⟨RX9, "moodsThatSay", "(II)I"⟩
def RX10 : String := "SameKeeper$Tape"
def TX10 : u_T := fun k => match k with
  | 0 => ("SameKeeper$Tape", "bytes", "[I", true)
  | _ => ("SameKeeper$Tape", "length", "I", false)
def tyX10 : Nat → FieldType := fun k => match k with
  | 0 => .array .int
  | _ => .int
abbrev wsX100 : List Cond := u_ws RX10 TX10 2
theorem nmX10 : ∀ a, a < 2 → ∀ b, b < 2 → a ≠ b → (TX10 a).2.1 ≠ (TX10 b).2.1 := by decide +kernel
theorem tyX10_ok : ∀ k, k < 2 → parseFieldDescriptor (TX10 k).2.2.1 = some (tyX10 k) := by decide +kernel
abbrev cX10_init : ByteArray := prog_12_method_1_code
def yX10_init : MethodName := ⟨RX10, "<init>", "(I)V"⟩
abbrev cX10_add : ByteArray := prog_12_method_2_code
def yX10_add : MethodName := ⟨RX10, "add", "(I)V"⟩
abbrev cX10_addNumber : ByteArray := prog_12_method_3_code
def yX10_addNumber : MethodName := ⟨RX10, "addNumber", "(I)V"⟩
abbrev cX10_left : ByteArray := prog_12_method_4_code
def yX10_left : MethodName := ⟨RX10, "left", "(I)I"⟩
abbrev cX10_checkOf : ByteArray := prog_12_method_5_code
def yX10_checkOf : MethodName := ⟨RX10, "checkOf", "(I)I"⟩
def RX11 : String := "SameKeeper"
def TX11 : u_T := fun k => match k with
  | 0 => ("SameKeeper", "tape", "LSameKeeper$Tape;", true)
  | 1 => ("SameKeeper", "picture", "LSameKeeper$Tape;", true)
  | 2 => ("SameKeeper", "reader", "LSameKeeper$Reader;", true)
  | 3 => ("SameKeeper", "lockText", "LSameKeeper$LockText;", true)
  | 4 => ("SameKeeper", "question", "LSameKeeper$Question;", true)
  | 5 => ("SameKeeper", "held", "LSameKeeper$Lock;", false)
  | 6 => ("SameKeeper", "draft", "LSameKeeper$Lock;", false)
  | 7 => ("SameKeeper", "now", "LSameKeeper$State;", true)
  | 8 => ("SameKeeper", "trial", "LSameKeeper$State;", true)
  | 9 => ("SameKeeper", "past", "LSameKeeper$Past;", true)
  | 10 => ("SameKeeper", "table", "LSameKeeper$Table;", true)
  | 11 => ("SameKeeper", "graph", "LSameKeeper$Graph;", true)
  | 12 => ("SameKeeper", "row", "[I", true)
  | 13 => ("SameKeeper", "otherRow", "[I", true)
  | 14 => ("SameKeeper", "heardRows", "[I", true)
  | 15 => ("SameKeeper", "heardCount", "I", false)
  | 16 => ("SameKeeper", "refused", "[I", true)
  | _ => ("SameKeeper", "drawn", "J", false)
def tyX11 : Nat → FieldType := fun k => match k with
  | 0 => .object "SameKeeper$Tape"
  | 1 => .object "SameKeeper$Tape"
  | 2 => .object "SameKeeper$Reader"
  | 3 => .object "SameKeeper$LockText"
  | 4 => .object "SameKeeper$Question"
  | 5 => .object "SameKeeper$Lock"
  | 6 => .object "SameKeeper$Lock"
  | 7 => .object "SameKeeper$State"
  | 8 => .object "SameKeeper$State"
  | 9 => .object "SameKeeper$Past"
  | 10 => .object "SameKeeper$Table"
  | 11 => .object "SameKeeper$Graph"
  | 12 => .array .int
  | 13 => .array .int
  | 14 => .array .int
  | 15 => .int
  | 16 => .array .int
  | _ => .long
abbrev wsX110 : List Cond := u_ws RX11 TX11 18
theorem nmX11 : ∀ a, a < 18 → ∀ b, b < 18 → a ≠ b → (TX11 a).2.1 ≠ (TX11 b).2.1 := by decide +kernel
theorem tyX11_ok : ∀ k, k < 18 → parseFieldDescriptor (TX11 k).2.2.1 = some (tyX11 k) := by decide +kernel
abbrev cX11_init : ByteArray := prog_1_method_1_code
def yX11_init : MethodName := ⟨RX11, "<init>", "()V"⟩
abbrev cX11_feed : ByteArray := prog_1_method_2_code
def yX11_feed : MethodName := ⟨RX11, "feed", "(IIIII)I"⟩
abbrev cX11_end : ByteArray := prog_1_method_3_code
def yX11_end : MethodName := ⟨RX11, "end", "(I)Z"⟩
abbrev cX11_lock : ByteArray := prog_1_method_4_code
def yX11_lock : MethodName := ⟨RX11, "lock", "()I"⟩
abbrev cX11_fault : ByteArray := prog_1_method_5_code
def yX11_fault : MethodName := ⟨RX11, "fault", "(I)I"⟩
abbrev cX11_has : ByteArray := prog_1_method_6_code
def yX11_has : MethodName := ⟨RX11, "has", "(I)I"⟩
abbrev cX11_day : ByteArray := prog_1_method_7_code
def yX11_day : MethodName := ⟨RX11, "day", "(II)I"⟩
abbrev cX11_told : ByteArray := prog_1_method_8_code
def yX11_told : MethodName := ⟨RX11, "told", "(II)I"⟩
abbrev cX11_does : ByteArray := prog_1_method_9_code
def yX11_does : MethodName := ⟨RX11, "does", "(III)I"⟩
abbrev cX11_kept : ByteArray := prog_1_method_10_code
def yX11_kept : MethodName := ⟨RX11, "kept", "(II)J"⟩
abbrev cX11_weeks : ByteArray := prog_1_method_11_code
def yX11_weeks : MethodName := ⟨RX11, "weeks", "()J"⟩
abbrev cX11_mood : ByteArray := prog_1_method_12_code
def yX11_mood : MethodName := ⟨RX11, "mood", "(II)I"⟩
abbrev cX11_many : ByteArray := prog_1_method_13_code
def yX11_many : MethodName := ⟨RX11, "many", "(II)J"⟩
abbrev cX11_hushed : ByteArray := prog_1_method_14_code
def yX11_hushed : MethodName := ⟨RX11, "hushed", "()I"⟩
abbrev cX11_wished : ByteArray := prog_1_method_15_code
def yX11_wished : MethodName := ⟨RX11, "wished", "(II)I"⟩
abbrev cX11_lies : ByteArray := prog_1_method_16_code
def yX11_lies : MethodName := ⟨RX11, "lies", "()I"⟩
abbrev cX11_later : ByteArray := prog_1_method_17_code
def yX11_later : MethodName := ⟨RX11, "later", "(I)I"⟩
abbrev cX11_ring : ByteArray := prog_1_method_18_code
def yX11_ring : MethodName := ⟨RX11, "ring", "()I"⟩
abbrev cX11_frees : ByteArray := prog_1_method_19_code
def yX11_frees : MethodName := ⟨RX11, "frees", "(II)I"⟩
abbrev cX11_pay : ByteArray := prog_1_method_20_code
def yX11_pay : MethodName := ⟨RX11, "pay", "()J"⟩
abbrev cX11_paid : ByteArray := prog_1_method_21_code
def yX11_paid : MethodName := ⟨RX11, "paid", "(I)I"⟩
abbrev cX11_rest : ByteArray := prog_1_method_22_code
def yX11_rest : MethodName := ⟨RX11, "rest", "()I"⟩
abbrev cX11_unlike : ByteArray := prog_1_method_23_code
def yX11_unlike : MethodName := ⟨RX11, "unlike", "(II)I"⟩
abbrev cX11_known : ByteArray := prog_1_method_24_code
def yX11_known : MethodName := ⟨RX11, "known", "(III)I"⟩
abbrev cX11_sure : ByteArray := prog_1_method_25_code
def yX11_sure : MethodName := ⟨RX11, "sure", "(II)I"⟩
abbrev cX11_hear : ByteArray := prog_1_method_26_code
def yX11_hear : MethodName := ⟨RX11, "hear", "()I"⟩
abbrev cX11_heard : ByteArray := prog_1_method_27_code
def yX11_heard : MethodName := ⟨RX11, "heard", "()J"⟩
abbrev cX11_tells : ByteArray := prog_1_method_28_code
def yX11_tells : MethodName := ⟨RX11, "tells", "(I)J"⟩
abbrev cX11_same : ByteArray := prog_1_method_29_code
def yX11_same : MethodName := ⟨RX11, "same", "(II)I"⟩
abbrev cX11_set : ByteArray := prog_1_method_30_code
def yX11_set : MethodName := ⟨RX11, "set", "(III)Z"⟩
abbrev cX11_mute : ByteArray := prog_1_method_31_code
def yX11_mute : MethodName := ⟨RX11, "mute", "(II)Z"⟩
abbrev cX11_go : ByteArray := prog_1_method_32_code
def yX11_go : MethodName := ⟨RX11, "go", "()I"⟩
abbrev cX11_chance : ByteArray := prog_1_method_33_code
def yX11_chance : MethodName := ⟨RX11, "chance", "(I)I"⟩
abbrev cX11_undo : ByteArray := prog_1_method_34_code
def yX11_undo : MethodName := ⟨RX11, "undo", "()Z"⟩
abbrev cX11_seed : ByteArray := prog_1_method_35_code
def yX11_seed : MethodName := ⟨RX11, "seed", "(I)Z"⟩
abbrev cX11_ask : ByteArray := prog_1_method_36_code
def yX11_ask : MethodName := ⟨RX11, "ask", "()J"⟩
abbrev cX11_image : ByteArray := prog_1_method_37_code
def yX11_image : MethodName := ⟨RX11, "image", "()I"⟩
abbrev cX11_octet : ByteArray := prog_1_method_38_code
def yX11_octet : MethodName := ⟨RX11, "octet", "(I)I"⟩
abbrev cX11_on : ByteArray := prog_1_method_39_code
def yX11_on : MethodName := ⟨RX11, "on", "()Z"⟩
abbrev cX11_status : ByteArray := prog_1_method_40_code
def yX11_status : MethodName := ⟨RX11, "status", "(I)I"⟩
abbrev cX11_refuse : ByteArray := prog_1_method_41_code
def yX11_refuse : MethodName := ⟨RX11, "refuse", "(I)I"⟩
abbrev cX11_refuseIt : ByteArray := prog_1_method_42_code
def yX11_refuseIt : MethodName := ⟨RX11, "refuseIt", "(I)Z"⟩
abbrev cX11_isLocked : ByteArray := prog_1_method_43_code
def yX11_isLocked : MethodName := ⟨RX11, "isLocked", "()Z"⟩
abbrev cX11_isDay : ByteArray := prog_1_method_44_code
def yX11_isDay : MethodName := ⟨RX11, "isDay", "(I)Z"⟩
abbrev cX11_isDigit : ByteArray := prog_1_method_45_code
def yX11_isDigit : MethodName := ⟨RX11, "isDigit", "(I)Z"⟩
abbrev cX11_isWordOf : ByteArray := prog_1_method_46_code
def yX11_isWordOf : MethodName := ⟨RX11, "isWordOf", "(II)Z"⟩
abbrev cX11_lookAt : ByteArray := prog_1_method_47_code
def yX11_lookAt : MethodName := ⟨RX11, "lookAt", "(LSameKeeper$State;)Z"⟩
abbrev cX11_lookByWord : ByteArray := prog_1_method_48_code
def yX11_lookByWord : MethodName := ⟨RX11, "lookByWord", "(II)Z"⟩
abbrev cX11_lookByHeard : ByteArray := prog_1_method_49_code
def yX11_lookByHeard : MethodName := ⟨RX11, "lookByHeard", "()Z"⟩
abbrev cX11_takeWeek : ByteArray := prog_1_method_50_code
def yX11_takeWeek : MethodName := ⟨RX11, "takeWeek", "(I[I)Z"⟩
abbrev cX11_stepAhead : ByteArray := prog_1_method_51_code
def yX11_stepAhead : MethodName := ⟨RX11, "stepAhead", "()Z"⟩
abbrev cX11_fewest : ByteArray := prog_1_method_52_code
def yX11_fewest : MethodName := ⟨RX11, "fewest", "(III)I"⟩
abbrev cX11_serves : ByteArray := prog_1_method_53_code
def yX11_serves : MethodName := ⟨RX11, "serves", "(IIII)Z"⟩
abbrev cX11_isAtRest : ByteArray := prog_1_method_54_code
def yX11_isAtRest : MethodName := ⟨RX11, "isAtRest", "(I)Z"⟩
abbrev cX11_pass : ByteArray := prog_1_method_55_code
def yX11_pass : MethodName := ⟨RX11, "pass", "(J)V"⟩
abbrev cX11_passByChance : ByteArray := prog_1_method_56_code
def yX11_passByChance : MethodName := ⟨RX11, "passByChance", "()Z"⟩
abbrev cX11_draw : ByteArray := prog_1_method_57_code
def yX11_draw : MethodName := ⟨RX11, "draw", "(J)J"⟩
abbrev cX11_tellsRows : ByteArray := prog_1_method_58_code
def yX11_tellsRows : MethodName := ⟨RX11, "tellsRows", "()Z"⟩
abbrev cX11_tellsImage : ByteArray := prog_1_method_59_code
def yX11_tellsImage : MethodName := ⟨RX11, "tellsImage", "()Z"⟩
def RX12 : String := "SameKeeperModel"
def TX12 : u_T := fun k => match k with
  | 0 => ("SameKeeperModel", "tape", "[I", true)
  | 1 => ("SameKeeperModel", "taped", "I", false)
  | 2 => ("SameKeeperModel", "at", "I", false)
  | 3 => ("SameKeeperModel", "end", "I", false)
  | 4 => ("SameKeeperModel", "ended", "I", false)
  | 5 => ("SameKeeperModel", "bad", "I", false)
  | 6 => ("SameKeeperModel", "badPlace", "I", false)
  | 7 => ("SameKeeperModel", "fault", "I", false)
  | 8 => ("SameKeeperModel", "faultPlace", "I", false)
  | 9 => ("SameKeeperModel", "refused", "[I", true)
  | 10 => ("SameKeeperModel", "numberPlace", "I", false)
  | 11 => ("SameKeeperModel", "lockWord", "[C", true)
  | 12 => ("SameKeeperModel", "fromWord", "[C", true)
  | 13 => ("SameKeeperModel", "bargeWord", "[C", true)
  | 14 => ("SameKeeperModel", "wetWord", "[C", true)
  | 15 => ("SameKeeperModel", "muteWord", "[C", true)
  | 16 => ("SameKeeperModel", "saysWord", "[C", true)
  | 17 => ("SameKeeperModel", "doesWord", "[C", true)
  | 18 => ("SameKeeperModel", "wageWord", "[C", true)
  | 19 => ("SameKeeperModel", "rainWord", "[C", true)
  | 20 => ("SameKeeperModel", "lock0", "[I", true)
  | 21 => ("SameKeeperModel", "days0", "[I", true)
  | 22 => ("SameKeeperModel", "rainTold", "I", false)
  | 23 => ("SameKeeperModel", "rain", "I", false)
  | 24 => ("SameKeeperModel", "codeFrom", "[I", true)
  | 25 => ("SameKeeperModel", "codeEnd", "[I", true)
  | 26 => ("SameKeeperModel", "codes", "[I", true)
  | 27 => ("SameKeeperModel", "coded", "I", false)
  | 28 => ("SameKeeperModel", "statements", "I", false)
  | 29 => ("SameKeeperModel", "isLock", "Z", false)
  | 30 => ("SameKeeperModel", "textKind", "I", false)
  | 31 => ("SameKeeperModel", "now", "[I", true)
  | 32 => ("SameKeeperModel", "aside", "[I", true)
  | 33 => ("SameKeeperModel", "askMood", "I", false)
  | 34 => ("SameKeeperModel", "askTold", "I", false)
  | 35 => ("SameKeeperModel", "askAlone", "I", false)
  | 36 => ("SameKeeperModel", "withWord", "[Z", true)
  | 37 => ("SameKeeperModel", "without", "[Z", true)
  | 38 => ("SameKeeperModel", "words", "[I", true)
  | 39 => ("SameKeeperModel", "muteToo", "I", false)
  | 40 => ("SameKeeperModel", "byHeard", "Z", false)
  | 41 => ("SameKeeperModel", "wordDay", "I", false)
  | 42 => ("SameKeeperModel", "wordTold", "I", false)
  | 43 => ("SameKeeperModel", "behind", "[J", true)
  | 44 => ("SameKeeperModel", "before", "[J", true)
  | 45 => ("SameKeeperModel", "ways", "J", false)
  | 46 => ("SameKeeperModel", "path", "[I", true)
  | 47 => ("SameKeeperModel", "isThought", "Z", false)
  | 48 => ("SameKeeperModel", "pays", "[J", true)
  | 49 => ("SameKeeperModel", "wages", "[J", true)
  | 50 => ("SameKeeperModel", "agrees0", "[Z", true)
  | 51 => ("SameKeeperModel", "other0", "[I", true)
  | 52 => ("SameKeeperModel", "rowMany", "I", false)
  | 53 => ("SameKeeperModel", "rows", "[I", true)
  | 54 => ("SameKeeperModel", "kept0", "[I", true)
  | 55 => ("SameKeeperModel", "undoable", "I", false)
  | 56 => ("SameKeeperModel", "newest", "I", false)
  | 57 => ("SameKeeperModel", "seeded", "J", false)
  | 58 => ("SameKeeperModel", "firstAsked", "[C", true)
  | 59 => ("SameKeeperModel", "lastAsked", "[C", true)
  | 60 => ("SameKeeperModel", "oftenAsked", "[C", true)
  | 61 => ("SameKeeperModel", "totalAsked", "[C", true)
  | 62 => ("SameKeeperModel", "mostAsked", "[C", true)
  | 63 => ("SameKeeperModel", "leastAsked", "[C", true)
  | 64 => ("SameKeeperModel", "notAsked", "[C", true)
  | 65 => ("SameKeeperModel", "andAsked", "[C", true)
  | 66 => ("SameKeeperModel", "orAsked", "[C", true)
  | 67 => ("SameKeeperModel", "allAsked", "[C", true)
  | 68 => ("SameKeeperModel", "minAsked", "[C", true)
  | 69 => ("SameKeeperModel", "maxAsked", "[C", true)
  | 70 => ("SameKeeperModel", "moodAsked", "[C", true)
  | 71 => ("SameKeeperModel", "bargeAsked", "[C", true)
  | 72 => ("SameKeeperModel", "wetAsked", "[C", true)
  | 73 => ("SameKeeperModel", "dayAsked", "[C", true)
  | 74 => ("SameKeeperModel", "weekAsked", "[C", true)
  | 75 => ("SameKeeperModel", "toldAsked", "[C", true)
  | 76 => ("SameKeeperModel", "aloneAsked", "[C", true)
  | 77 => ("SameKeeperModel", "numberAsked", "[C", true)
  | 78 => ("SameKeeperModel", "muteAsked", "[C", true)
  | 79 => ("SameKeeperModel", "weeksAsked", "[C", true)
  | 80 => ("SameKeeperModel", "qCodes", "[I", true)
  | 81 => ("SameKeeperModel", "qCoded", "I", false)
  | 82 => ("SameKeeperModel", "qWait", "[I", true)
  | 83 => ("SameKeeperModel", "qWaits", "I", false)
  | 84 => ("SameKeeperModel", "qOpened", "I", false)
  | 85 => ("SameKeeperModel", "qBase", "I", false)
  | 86 => ("SameKeeperModel", "qPile", "[J", true)
  | 87 => ("SameKeeperModel", "qPiled", "I", false)
  | 88 => ("SameKeeperModel", "qAnswer", "J", false)
  | 89 => ("SameKeeperModel", "qIsNew", "Z", false)
  | 90 => ("SameKeeperModel", "octet", "[I", true)
  | _ => ("SameKeeperModel", "octets", "I", false)
def tyX12 : Nat → FieldType := fun k => match k with
  | 0 => .array .int
  | 1 => .int
  | 2 => .int
  | 3 => .int
  | 4 => .int
  | 5 => .int
  | 6 => .int
  | 7 => .int
  | 8 => .int
  | 9 => .array .int
  | 10 => .int
  | 11 => .array .char
  | 12 => .array .char
  | 13 => .array .char
  | 14 => .array .char
  | 15 => .array .char
  | 16 => .array .char
  | 17 => .array .char
  | 18 => .array .char
  | 19 => .array .char
  | 20 => .array .int
  | 21 => .array .int
  | 22 => .int
  | 23 => .int
  | 24 => .array .int
  | 25 => .array .int
  | 26 => .array .int
  | 27 => .int
  | 28 => .int
  | 29 => .boolean
  | 30 => .int
  | 31 => .array .int
  | 32 => .array .int
  | 33 => .int
  | 34 => .int
  | 35 => .int
  | 36 => .array .boolean
  | 37 => .array .boolean
  | 38 => .array .int
  | 39 => .int
  | 40 => .boolean
  | 41 => .int
  | 42 => .int
  | 43 => .array .long
  | 44 => .array .long
  | 45 => .long
  | 46 => .array .int
  | 47 => .boolean
  | 48 => .array .long
  | 49 => .array .long
  | 50 => .array .boolean
  | 51 => .array .int
  | 52 => .int
  | 53 => .array .int
  | 54 => .array .int
  | 55 => .int
  | 56 => .int
  | 57 => .long
  | 58 => .array .char
  | 59 => .array .char
  | 60 => .array .char
  | 61 => .array .char
  | 62 => .array .char
  | 63 => .array .char
  | 64 => .array .char
  | 65 => .array .char
  | 66 => .array .char
  | 67 => .array .char
  | 68 => .array .char
  | 69 => .array .char
  | 70 => .array .char
  | 71 => .array .char
  | 72 => .array .char
  | 73 => .array .char
  | 74 => .array .char
  | 75 => .array .char
  | 76 => .array .char
  | 77 => .array .char
  | 78 => .array .char
  | 79 => .array .char
  | 80 => .array .int
  | 81 => .int
  | 82 => .array .int
  | 83 => .int
  | 84 => .int
  | 85 => .int
  | 86 => .array .long
  | 87 => .int
  | 88 => .long
  | 89 => .boolean
  | 90 => .array .int
  | _ => .int
abbrev wsX120 : List Cond := u_ws RX12 TX12 92
theorem nmX12 : ∀ a, a < 92 → ∀ b, b < 92 → a ≠ b → (TX12 a).2.1 ≠ (TX12 b).2.1 := by decide +kernel
theorem tyX12_ok : ∀ k, k < 92 → parseFieldDescriptor (TX12 k).2.2.1 = some (tyX12 k) := by decide +kernel
abbrev cX12_init : ByteArray := prog_14_method_1_code
def yX12_init : MethodName := ⟨RX12, "<init>", "()V"⟩
abbrev cX12_isIn : ByteArray := prog_14_method_2_code
def yX12_isIn : MethodName := ⟨RX12, "isIn", "(JJJ)Z"⟩
abbrev cX12_feed : ByteArray := prog_14_method_3_code
def yX12_feed : MethodName := ⟨RX12, "feed", "(IIIII)I"⟩
abbrev cX12_end : ByteArray := prog_14_method_4_code
def yX12_end : MethodName := ⟨RX12, "end", "(I)Z"⟩
abbrev cX12_fail : ByteArray := prog_14_method_5_code
def yX12_fail : MethodName := ⟨RX12, "fail", "(II)V"⟩
abbrev cX12_isLetter : ByteArray := prog_14_method_6_code
def yX12_isLetter : MethodName := ⟨RX12, "isLetter", "(I)Z"⟩
abbrev cX12_isDigit : ByteArray := prog_14_method_7_code
def yX12_isDigit : MethodName := ⟨RX12, "isDigit", "(I)Z"⟩
abbrev cX12_look : ByteArray := prog_14_method_8_code
def yX12_look : MethodName := ⟨RX12, "look", "()I"⟩
abbrev cX12_isHere : ByteArray := prog_14_method_9_code
def yX12_isHere : MethodName := ⟨RX12, "isHere", "([C)Z"⟩
abbrev cX12_takes : ByteArray := prog_14_method_10_code
def yX12_takes : MethodName := ⟨RX12, "takes", "([C)Z"⟩
abbrev cX12_asks : ByteArray := prog_14_method_11_code
def yX12_asks : MethodName := ⟨RX12, "asks", "([C)V"⟩
abbrev cX12_takesSign : ByteArray := prog_14_method_12_code
def yX12_takesSign : MethodName := ⟨RX12, "takesSign", "(I)Z"⟩
abbrev cX12_asksSign : ByteArray := prog_14_method_13_code
def yX12_asksSign : MethodName := ⟨RX12, "asksSign", "(I)V"⟩
abbrev cX12_number : ByteArray := prog_14_method_14_code
def yX12_number : MethodName := ⟨RX12, "number", "(II)I"⟩
abbrev cX12_isAllowed : ByteArray := prog_14_method_15_code
def yX12_isAllowed : MethodName := ⟨RX12, "isAllowed", "(I)Z"⟩
abbrev cX12_lockTold : ByteArray := prog_14_method_16_code
def yX12_lockTold : MethodName := ⟨RX12, "lockTold", "()V"⟩
abbrev cX12_dayTold : ByteArray := prog_14_method_17_code
def yX12_dayTold : MethodName := ⟨RX12, "dayTold", "(I)V"⟩
abbrev cX12_muteTold : ByteArray := prog_14_method_18_code
def yX12_muteTold : MethodName := ⟨RX12, "muteTold", "()V"⟩
abbrev cX12_codesTold : ByteArray := prog_14_method_19_code
def yX12_codesTold : MethodName := ⟨RX12, "codesTold", "(II)V"⟩
abbrev cX12_statementTold : ByteArray := prog_14_method_20_code
def yX12_statementTold : MethodName := ⟨RX12, "statementTold", "()V"⟩
abbrev cX12_lock : ByteArray := prog_14_method_21_code
def yX12_lock : MethodName := ⟨RX12, "lock", "()I"⟩
abbrev cX12_stands : ByteArray := prog_14_method_22_code
def yX12_stands : MethodName := ⟨RX12, "stands", "()V"⟩
abbrev cX12_fault : ByteArray := prog_14_method_23_code
def yX12_fault : MethodName := ⟨RX12, "fault", "(I)I"⟩
abbrev cX12_dayMany : ByteArray := prog_14_method_24_code
def yX12_dayMany : MethodName := ⟨RX12, "dayMany", "()I"⟩
abbrev cX12_isDay : ByteArray := prog_14_method_25_code
def yX12_isDay : MethodName := ⟨RX12, "isDay", "(I)Z"⟩
abbrev cX12_isMood : ByteArray := prog_14_method_26_code
def yX12_isMood : MethodName := ⟨RX12, "isMood", "(I)Z"⟩
abbrev cX12_bargeOf : ByteArray := prog_14_method_27_code
def yX12_bargeOf : MethodName := ⟨RX12, "bargeOf", "(I)I"⟩
abbrev cX12_wetOf : ByteArray := prog_14_method_28_code
def yX12_wetOf : MethodName := ⟨RX12, "wetOf", "(I)I"⟩
abbrev cX12_isMute : ByteArray := prog_14_method_29_code
def yX12_isMute : MethodName := ⟨RX12, "isMute", "(I)Z"⟩
abbrev cX12_codesTell : ByteArray := prog_14_method_30_code
def yX12_codesTell : MethodName := ⟨RX12, "codesTell", "(II)J"⟩
abbrev cX12_byTen : ByteArray := prog_14_method_31_code
def yX12_byTen : MethodName := ⟨RX12, "byTen", "(J)I"⟩
abbrev cX12_wordOf : ByteArray := prog_14_method_32_code
def yX12_wordOf : MethodName := ⟨RX12, "wordOf", "(II)I"⟩
abbrev cX12_becomesBy : ByteArray := prog_14_method_33_code
def yX12_becomesBy : MethodName := ⟨RX12, "becomesBy", "(IIIZ)I"⟩
abbrev cX12_wageOf : ByteArray := prog_14_method_34_code
def yX12_wageOf : MethodName := ⟨RX12, "wageOf", "(II)J"⟩
abbrev cX12_laysDays : ByteArray := prog_14_method_35_code
def yX12_laysDays : MethodName := ⟨RX12, "laysDays", "(I)V"⟩
abbrev cX12_isMuteNow : ByteArray := prog_14_method_36_code
def yX12_isMuteNow : MethodName := ⟨RX12, "isMuteNow", "(I)Z"⟩
abbrev cX12_isLeft : ByteArray := prog_14_method_37_code
def yX12_isLeft : MethodName := ⟨RX12, "isLeft", "(II)Z"⟩
abbrev cX12_canFollow : ByteArray := prog_14_method_38_code
def yX12_canFollow : MethodName := ⟨RX12, "canFollow", "(III)Z"⟩
abbrev cX12_laysWays : ByteArray := prog_14_method_39_code
def yX12_laysWays : MethodName := ⟨RX12, "laysWays", "()V"⟩
abbrev cX12_laysAll : ByteArray := prog_14_method_40_code
def yX12_laysAll : MethodName := ⟨RX12, "laysAll", "()V"⟩
abbrev cX12_walksTo : ByteArray := prog_14_method_41_code
def yX12_walksTo : MethodName := ⟨RX12, "walksTo", "(J)V"⟩
abbrev cX12_doesAgree : ByteArray := prog_14_method_42_code
def yX12_doesAgree : MethodName := ⟨RX12, "doesAgree", "(I)Z"⟩
abbrev cX12_isKept : ByteArray := prog_14_method_43_code
def yX12_isKept : MethodName := ⟨RX12, "isKept", "()V"⟩
abbrev cX12_goesBy : ByteArray := prog_14_method_44_code
def yX12_goesBy : MethodName := ⟨RX12, "goesBy", "(J)V"⟩
abbrev cX12_doGo : ByteArray := prog_14_method_45_code
def yX12_doGo : MethodName := ⟨RX12, "doGo", "()Z"⟩
abbrev cX12_putsAside : ByteArray := prog_14_method_46_code
def yX12_putsAside : MethodName := ⟨RX12, "putsAside", "()V"⟩
abbrev cX12_takesBack : ByteArray := prog_14_method_47_code
def yX12_takesBack : MethodName := ⟨RX12, "takesBack", "()V"⟩
abbrev cX12_isAhead : ByteArray := prog_14_method_48_code
def yX12_isAhead : MethodName := ⟨RX12, "isAhead", "(III)Z"⟩
abbrev cX12_bits : ByteArray := prog_14_method_49_code
def yX12_bits : MethodName := ⟨RX12, "bits", "(I)I"⟩
abbrev cX12_muteSet : ByteArray := prog_14_method_50_code
def yX12_muteSet : MethodName := ⟨RX12, "muteSet", "()I"⟩
abbrev cX12_has : ByteArray := prog_14_method_51_code
def yX12_has : MethodName := ⟨RX12, "has", "(I)I"⟩
abbrev cX12_day : ByteArray := prog_14_method_52_code
def yX12_day : MethodName := ⟨RX12, "day", "(II)I"⟩
abbrev cX12_told : ByteArray := prog_14_method_53_code
def yX12_told : MethodName := ⟨RX12, "told", "(II)I"⟩
abbrev cX12_does : ByteArray := prog_14_method_54_code
def yX12_does : MethodName := ⟨RX12, "does", "(III)I"⟩
abbrev cX12_kept : ByteArray := prog_14_method_55_code
def yX12_kept : MethodName := ⟨RX12, "kept", "(II)J"⟩
abbrev cX12_weeks : ByteArray := prog_14_method_56_code
def yX12_weeks : MethodName := ⟨RX12, "weeks", "()J"⟩
abbrev cX12_mood : ByteArray := prog_14_method_57_code
def yX12_mood : MethodName := ⟨RX12, "mood", "(II)I"⟩
abbrev cX12_many : ByteArray := prog_14_method_58_code
def yX12_many : MethodName := ⟨RX12, "many", "(II)J"⟩
abbrev cX12_hushed : ByteArray := prog_14_method_59_code
def yX12_hushed : MethodName := ⟨RX12, "hushed", "()I"⟩
abbrev cX12_wished : ByteArray := prog_14_method_60_code
def yX12_wished : MethodName := ⟨RX12, "wished", "(II)I"⟩
abbrev cX12_lies : ByteArray := prog_14_method_61_code
def yX12_lies : MethodName := ⟨RX12, "lies", "()I"⟩
abbrev cX12_later : ByteArray := prog_14_method_62_code
def yX12_later : MethodName := ⟨RX12, "later", "(I)I"⟩
abbrev cX12_ring : ByteArray := prog_14_method_63_code
def yX12_ring : MethodName := ⟨RX12, "ring", "()I"⟩
abbrev cX12_frees : ByteArray := prog_14_method_64_code
def yX12_frees : MethodName := ⟨RX12, "frees", "(II)I"⟩
abbrev cX12_laysPay : ByteArray := prog_14_method_65_code
def yX12_laysPay : MethodName := ⟨RX12, "laysPay", "()V"⟩
abbrev cX12_bestBehind : ByteArray := prog_14_method_66_code
def yX12_bestBehind : MethodName := ⟨RX12, "bestBehind", "(II)I"⟩
abbrev cX12_pay : ByteArray := prog_14_method_67_code
def yX12_pay : MethodName := ⟨RX12, "pay", "()J"⟩
abbrev cX12_paid : ByteArray := prog_14_method_68_code
def yX12_paid : MethodName := ⟨RX12, "paid", "(I)I"⟩
abbrev cX12_laysRest : ByteArray := prog_14_method_69_code
def yX12_laysRest : MethodName := ⟨RX12, "laysRest", "()V"⟩
abbrev cX12_isRest : ByteArray := prog_14_method_70_code
def yX12_isRest : MethodName := ⟨RX12, "isRest", "(I)Z"⟩
abbrev cX12_rest : ByteArray := prog_14_method_71_code
def yX12_rest : MethodName := ⟨RX12, "rest", "()I"⟩
abbrev cX12_unlike : ByteArray := prog_14_method_72_code
def yX12_unlike : MethodName := ⟨RX12, "unlike", "(II)I"⟩
abbrev cX12_laysByWord : ByteArray := prog_14_method_73_code
def yX12_laysByWord : MethodName := ⟨RX12, "laysByWord", "(II)V"⟩
abbrev cX12_moodsOf : ByteArray := prog_14_method_74_code
def yX12_moodsOf : MethodName := ⟨RX12, "moodsOf", "(I)I"⟩
abbrev cX12_canBeTold : ByteArray := prog_14_method_75_code
def yX12_canBeTold : MethodName := ⟨RX12, "canBeTold", "(II)Z"⟩
abbrev cX12_known : ByteArray := prog_14_method_76_code
def yX12_known : MethodName := ⟨RX12, "known", "(III)I"⟩
abbrev cX12_sure : ByteArray := prog_14_method_77_code
def yX12_sure : MethodName := ⟨RX12, "sure", "(II)I"⟩
abbrev cX12_refuses : ByteArray := prog_14_method_78_code
def yX12_refuses : MethodName := ⟨RX12, "refuses", "(I)I"⟩
abbrev cX12_hear : ByteArray := prog_14_method_79_code
def yX12_hear : MethodName := ⟨RX12, "hear", "()I"⟩
abbrev cX12_laysHeard : ByteArray := prog_14_method_80_code
def yX12_laysHeard : MethodName := ⟨RX12, "laysHeard", "()V"⟩
abbrev cX12_heard : ByteArray := prog_14_method_81_code
def yX12_heard : MethodName := ⟨RX12, "heard", "()J"⟩
abbrev cX12_tells : ByteArray := prog_14_method_82_code
def yX12_tells : MethodName := ⟨RX12, "tells", "(I)J"⟩
abbrev cX12_same : ByteArray := prog_14_method_83_code
def yX12_same : MethodName := ⟨RX12, "same", "(II)I"⟩
abbrev cX12_keeps : ByteArray := prog_14_method_84_code
def yX12_keeps : MethodName := ⟨RX12, "keeps", "()V"⟩
abbrev cX12_undo : ByteArray := prog_14_method_85_code
def yX12_undo : MethodName := ⟨RX12, "undo", "()Z"⟩
abbrev cX12_becomes : ByteArray := prog_14_method_86_code
def yX12_becomes : MethodName := ⟨RX12, "becomes", "(IIIZ)Z"⟩
abbrev cX12_set : ByteArray := prog_14_method_87_code
def yX12_set : MethodName := ⟨RX12, "set", "(III)Z"⟩
abbrev cX12_mute : ByteArray := prog_14_method_88_code
def yX12_mute : MethodName := ⟨RX12, "mute", "(II)Z"⟩
abbrev cX12_go : ByteArray := prog_14_method_89_code
def yX12_go : MethodName := ⟨RX12, "go", "()I"⟩
abbrev cX12_seed : ByteArray := prog_14_method_90_code
def yX12_seed : MethodName := ⟨RX12, "seed", "(I)Z"⟩
abbrev cX12_drawOf : ByteArray := prog_14_method_91_code
def yX12_drawOf : MethodName := ⟨RX12, "drawOf", "(J)J"⟩
abbrev cX12_drawsDays : ByteArray := prog_14_method_92_code
def yX12_drawsDays : MethodName := ⟨RX12, "drawsDays", "()V"⟩
abbrev cX12_chance : ByteArray := prog_14_method_93_code
def yX12_chance : MethodName := ⟨RX12, "chance", "(I)I"⟩
abbrev cX12_qCode : ByteArray := prog_14_method_94_code
def yX12_qCode : MethodName := ⟨RX12, "qCode", "(I)V"⟩
abbrev cX12_qOpens : ByteArray := prog_14_method_95_code
def yX12_qOpens : MethodName := ⟨RX12, "qOpens", "(II)V"⟩
abbrev cX12_qIsOn : ByteArray := prog_14_method_96_code
def yX12_qIsOn : MethodName := ⟨RX12, "qIsOn", "(I)Z"⟩
abbrev cX12_qDrops : ByteArray := prog_14_method_97_code
def yX12_qDrops : MethodName := ⟨RX12, "qDrops", "()V"⟩
abbrev cX12_qIsBracket : ByteArray := prog_14_method_98_code
def yX12_qIsBracket : MethodName := ⟨RX12, "qIsBracket", "(I)Z"⟩
abbrev cX12_qBracket : ByteArray := prog_14_method_99_code
def yX12_qBracket : MethodName := ⟨RX12, "qBracket", "()I"⟩
abbrev cX12_qDropsToBracket : ByteArray := prog_14_method_100_code
def yX12_qDropsToBracket : MethodName := ⟨RX12, "qDropsToBracket", "()V"⟩
abbrev cX12_qWordHere : ByteArray := prog_14_method_101_code
def yX12_qWordHere : MethodName := ⟨RX12, "qWordHere", "()I"⟩
abbrev cX12_qWordOf : ByteArray := prog_14_method_102_code
def yX12_qWordOf : MethodName := ⟨RX12, "qWordOf", "(II)I"⟩
abbrev cX12_qAsksWord : ByteArray := prog_14_method_103_code
def yX12_qAsksWord : MethodName := ⟨RX12, "qAsksWord", "(I)V"⟩
abbrev cX12_qEndsPart : ByteArray := prog_14_method_104_code
def yX12_qEndsPart : MethodName := ⟨RX12, "qEndsPart", "()V"⟩
abbrev cX12_qPartTold : ByteArray := prog_14_method_105_code
def yX12_qPartTold : MethodName := ⟨RX12, "qPartTold", "()V"⟩
abbrev cX12_qGoesOn : ByteArray := prog_14_method_106_code
def yX12_qGoesOn : MethodName := ⟨RX12, "qGoesOn", "()Z"⟩
abbrev cX12_qSums : ByteArray := prog_14_method_107_code
def yX12_qSums : MethodName := ⟨RX12, "qSums", "()V"⟩
abbrev cX12_qFact : ByteArray := prog_14_method_108_code
def yX12_qFact : MethodName := ⟨RX12, "qFact", "()V"⟩
abbrev cX12_qHasSquare : ByteArray := prog_14_method_109_code
def yX12_qHasSquare : MethodName := ⟨RX12, "qHasSquare", "()Z"⟩
abbrev cX12_qDropsNots : ByteArray := prog_14_method_110_code
def yX12_qDropsNots : MethodName := ⟨RX12, "qDropsNots", "()V"⟩
abbrev cX12_qTest : ByteArray := prog_14_method_111_code
def yX12_qTest : MethodName := ⟨RX12, "qTest", "()V"⟩
abbrev cX12_qGoesOnTest : ByteArray := prog_14_method_112_code
def yX12_qGoesOnTest : MethodName := ⟨RX12, "qGoesOnTest", "()Z"⟩
abbrev cX12_qClip : ByteArray := prog_14_method_113_code
def yX12_qClip : MethodName := ⟨RX12, "qClip", "(J)J"⟩
abbrev cX12_qFloor : ByteArray := prog_14_method_114_code
def yX12_qFloor : MethodName := ⟨RX12, "qFloor", "(JJ)J"⟩
abbrev cX12_qPuts : ByteArray := prog_14_method_115_code
def yX12_qPuts : MethodName := ⟨RX12, "qPuts", "(J)V"⟩
abbrev cX12_qJoins : ByteArray := prog_14_method_116_code
def yX12_qJoins : MethodName := ⟨RX12, "qJoins", "(I)V"⟩
abbrev cX12_qPartOf : ByteArray := prog_14_method_117_code
def yX12_qPartOf : MethodName := ⟨RX12, "qPartOf", "(II)J"⟩
abbrev cX12_qOf : ByteArray := prog_14_method_118_code
def yX12_qOf : MethodName := ⟨RX12, "qOf", "(IJI)J"⟩
abbrev cX12_qTold : ByteArray := prog_14_method_119_code
def yX12_qTold : MethodName := ⟨RX12, "qTold", "(I)J"⟩
abbrev cX12_qKind : ByteArray := prog_14_method_120_code
def yX12_qKind : MethodName := ⟨RX12, "qKind", "()I"⟩
abbrev cX12_qTakes : ByteArray := prog_14_method_121_code
def yX12_qTakes : MethodName := ⟨RX12, "qTakes", "(IJI)V"⟩
abbrev cX12_ask : ByteArray := prog_14_method_122_code
def yX12_ask : MethodName := ⟨RX12, "ask", "()J"⟩
abbrev cX12_checked : ByteArray := prog_14_method_123_code
def yX12_checked : MethodName := ⟨RX12, "checked", "([II)I"⟩
abbrev cX12_writes : ByteArray := prog_14_method_124_code
def yX12_writes : MethodName := ⟨RX12, "writes", "(I)V"⟩
abbrev cX12_image : ByteArray := prog_14_method_125_code
def yX12_image : MethodName := ⟨RX12, "image", "()I"⟩
abbrev cX12_octet : ByteArray := prog_14_method_126_code
def yX12_octet : MethodName := ⟨RX12, "octet", "(I)I"⟩
abbrev cX12_isImage : ByteArray := prog_14_method_127_code
def yX12_isImage : MethodName := ⟨RX12, "isImage", "(I)Z"⟩
abbrev cX12_on : ByteArray := prog_14_method_128_code
def yX12_on : MethodName := ⟨RX12, "on", "()Z"⟩
abbrev cX12_status : ByteArray := prog_14_method_129_code
def yX12_status : MethodName := ⟨RX12, "status", "(I)I"⟩
def RJx145de : String := "java/io/Serializable"
def TJx145de : u_T := fun k => match k with
  | _ => ("", "", "", false)
def tyJx145de : Nat → FieldType := fun k => match k with
  | _ => .int
abbrev wsJx145de0 : List Cond := u_ws RJx145de TJx145de 0
theorem nmJx145de : ∀ a, a < 0 → ∀ b, b < 0 → a ≠ b → (TJx145de a).2.1 ≠ (TJx145de b).2.1 := by decide +kernel
theorem tyJx145de_ok : ∀ k, k < 0 → parseFieldDescriptor (TJx145de k).2.2.1 = some (tyJx145de k) := by decide +kernel
def RJx9f9b0 : String := "java/lang/CharSequence"
def TJx9f9b0 : u_T := fun k => match k with
  | _ => ("", "", "", false)
def tyJx9f9b0 : Nat → FieldType := fun k => match k with
  | _ => .int
abbrev wsJx9f9b00 : List Cond := u_ws RJx9f9b0 TJx9f9b0 0
theorem nmJx9f9b0 : ∀ a, a < 0 → ∀ b, b < 0 → a ≠ b → (TJx9f9b0 a).2.1 ≠ (TJx9f9b0 b).2.1 := by decide +kernel
theorem tyJx9f9b0_ok : ∀ k, k < 0 → parseFieldDescriptor (TJx9f9b0 k).2.2.1 = some (tyJx9f9b0 k) := by decide +kernel
def RJxb160c : String := "java/lang/Comparable"
def TJxb160c : u_T := fun k => match k with
  | _ => ("", "", "", false)
def tyJxb160c : Nat → FieldType := fun k => match k with
  | _ => .int
abbrev wsJxb160c0 : List Cond := u_ws RJxb160c TJxb160c 0
theorem nmJxb160c : ∀ a, a < 0 → ∀ b, b < 0 → a ≠ b → (TJxb160c a).2.1 ≠ (TJxb160c b).2.1 := by decide +kernel
theorem tyJxb160c_ok : ∀ k, k < 0 → parseFieldDescriptor (TJxb160c k).2.2.1 = some (tyJxb160c k) := by decide +kernel
def RJ6 : String := "java/lang/Integer"
def TJ6 : u_T := fun k => match k with
  | _ => ("", "", "", false)
def tyJ6 : Nat → FieldType := fun k => match k with
  | _ => .int
abbrev wsJ60 : List Cond := u_ws RJ6 TJ6 0
theorem nmJ6 : ∀ a, a < 0 → ∀ b, b < 0 → a ≠ b → (TJ6 a).2.1 ≠ (TJ6 b).2.1 := by decide +kernel
theorem tyJ6_ok : ∀ k, k < 0 → parseFieldDescriptor (TJ6 k).2.2.1 = some (tyJ6 k) := by decide +kernel
abbrev cJ6_numberOfTrailingZeros_0f7a4 : ByteArray := prog_15_method_48_code
def yJ6_numberOfTrailingZeros_0f7a4 : MethodName := ⟨RJ6, "numberOfTrailingZeros", "(I)I"⟩
abbrev cJ6_bitCount_0f7a4 : ByteArray := prog_15_method_49_code
def yJ6_bitCount_0f7a4 : MethodName := ⟨RJ6, "bitCount", "(I)I"⟩
def RJ9 : String := "java/lang/Math"
def TJ9 : u_T := fun k => match k with
  | _ => ("", "", "", false)
def tyJ9 : Nat → FieldType := fun k => match k with
  | _ => .int
abbrev wsJ90 : List Cond := u_ws RJ9 TJ9 0
theorem nmJ9 : ∀ a, a < 0 → ∀ b, b < 0 → a ≠ b → (TJ9 a).2.1 ≠ (TJ9 b).2.1 := by decide +kernel
theorem tyJ9_ok : ∀ k, k < 0 → parseFieldDescriptor (TJ9 k).2.2.1 = some (tyJ9 k) := by decide +kernel
abbrev cJ9_floorDiv_f86c9 : ByteArray := prog_16_method_49_code
def yJ9_floorDiv_f86c9 : MethodName := ⟨RJ9, "floorDiv", "(JJ)J"⟩
abbrev cJ9_floorMod_1978a : ByteArray := prog_16_method_51_code
def yJ9_floorMod_1978a : MethodName := ⟨RJ9, "floorMod", "(JI)I"⟩
abbrev cJ9_floorMod_f86c9 : ByteArray := prog_16_method_52_code
def yJ9_floorMod_f86c9 : MethodName := ⟨RJ9, "floorMod", "(JJ)J"⟩
abbrev cJ9_max_7cf53 : ByteArray := prog_16_method_65_code
def yJ9_max_7cf53 : MethodName := ⟨RJ9, "max", "(II)I"⟩
abbrev cJ9_max_f86c9 : ByteArray := prog_16_method_66_code
def yJ9_max_f86c9 : MethodName := ⟨RJ9, "max", "(JJ)J"⟩
abbrev cJ9_min_7cf53 : ByteArray := prog_16_method_69_code
def yJ9_min_7cf53 : MethodName := ⟨RJ9, "min", "(II)I"⟩
abbrev cJ9_min_f86c9 : ByteArray := prog_16_method_70_code
def yJ9_min_f86c9 : MethodName := ⟨RJ9, "min", "(JJ)J"⟩
def RJ0 : String := "java/lang/String"
def TJ0 : u_T := fun k => match k with
  | _ => ("", "", "", false)
def tyJ0 : Nat → FieldType := fun k => match k with
  | _ => .int
abbrev wsJ00 : List Cond := u_ws RJ0 TJ0 0
theorem nmJ0 : ∀ a, a < 0 → ∀ b, b < 0 → a ≠ b → (TJ0 a).2.1 ≠ (TJ0 b).2.1 := by decide +kernel
theorem tyJ0_ok : ∀ k, k < 0 → parseFieldDescriptor (TJ0 k).2.2.1 = some (tyJ0 k) := by decide +kernel
abbrev cJ0_length_8abf5 : ByteArray := prog_17_method_54_code
def yJ0_length_8abf5 : MethodName := ⟨RJ0, "length", "()I"⟩
abbrev cJ0_charAt_5068e : ByteArray := prog_17_method_56_code
def yJ0_charAt_5068e : MethodName := ⟨RJ0, "charAt", "(I)C"⟩
abbrev cJ0_coder_7d493 : ByteArray := prog_17_method_152_code
def yJ0_coder_7d493 : MethodName := ⟨RJ0, "coder", "()B"⟩
abbrev cJ0_isLatin1_aae02 : ByteArray := prog_17_method_154_code
def yJ0_isLatin1_aae02 : MethodName := ⟨RJ0, "isLatin1", "()Z"⟩
abbrev cJ0_checkIndex_df160 : ByteArray := prog_17_method_155_code
def yJ0_checkIndex_df160 : MethodName := ⟨RJ0, "checkIndex", "(II)V"⟩
def RJ1 : String := "java/lang/StringLatin1"
def TJ1 : u_T := fun k => match k with
  | _ => ("", "", "", false)
def tyJ1 : Nat → FieldType := fun k => match k with
  | _ => .int
abbrev wsJ10 : List Cond := u_ws RJ1 TJ1 0
theorem nmJ1 : ∀ a, a < 0 → ∀ b, b < 0 → a ≠ b → (TJ1 a).2.1 ≠ (TJ1 b).2.1 := by decide +kernel
theorem tyJ1_ok : ∀ k, k < 0 → parseFieldDescriptor (TJ1 k).2.2.1 = some (tyJ1 k) := by decide +kernel
abbrev cJ1_charAt_3b067 : ByteArray := prog_18_method_2_code
def yJ1_charAt_3b067 : MethodName := ⟨RJ1, "charAt", "([BI)C"⟩
def RJ2 : String := "java/lang/StringUTF16"
def TJ2 : u_T := fun k => match k with
  | _ => ("", "", "", false)
def tyJ2 : Nat → FieldType := fun k => match k with
  | _ => .int
abbrev wsJ20 : List Cond := u_ws RJ2 TJ2 0
theorem nmJ2 : ∀ a, a < 0 → ∀ b, b < 0 → a ≠ b → (TJ2 a).2.1 ≠ (TJ2 b).2.1 := by decide +kernel
theorem tyJ2_ok : ∀ k, k < 0 → parseFieldDescriptor (TJ2 k).2.2.1 = some (tyJ2 k) := by decide +kernel
abbrev cJ2_getChar_3b067 : ByteArray := prog_19_method_5_code
def yJ2_getChar_3b067 : MethodName := ⟨RJ2, "getChar", "([BI)C"⟩
abbrev cJ2_length_9d52b : ByteArray := prog_19_method_6_code
def yJ2_length_9d52b : MethodName := ⟨RJ2, "length", "([B)I"⟩
abbrev cJ2_charAt_3b067 : ByteArray := prog_19_method_83_code
def yJ2_charAt_3b067 : MethodName := ⟨RJ2, "charAt", "([BI)C"⟩
abbrev cJ2_checkIndex_2214a : ByteArray := prog_19_method_91_code
def yJ2_checkIndex_2214a : MethodName := ⟨RJ2, "checkIndex", "(I[B)V"⟩
def RJ10 : String := "java/lang/System"
def TJ10 : u_T := fun k => match k with
  | _ => ("", "", "", false)
def tyJ10 : Nat → FieldType := fun k => match k with
  | _ => .int
abbrev wsJ100 : List Cond := u_ws RJ10 TJ10 0
theorem nmJ10 : ∀ a, a < 0 → ∀ b, b < 0 → a ≠ b → (TJ10 a).2.1 ≠ (TJ10 b).2.1 := by decide +kernel
theorem tyJ10_ok : ∀ k, k < 0 → parseFieldDescriptor (TJ10 k).2.2.1 = some (tyJ10 k) := by decide +kernel
def RJxfd54e : String := "java/lang/constant/Constable"
def TJxfd54e : u_T := fun k => match k with
  | _ => ("", "", "", false)
def tyJxfd54e : Nat → FieldType := fun k => match k with
  | _ => .int
abbrev wsJxfd54e0 : List Cond := u_ws RJxfd54e TJxfd54e 0
theorem nmJxfd54e : ∀ a, a < 0 → ∀ b, b < 0 → a ≠ b → (TJxfd54e a).2.1 ≠ (TJxfd54e b).2.1 := by decide +kernel
theorem tyJxfd54e_ok : ∀ k, k < 0 → parseFieldDescriptor (TJxfd54e k).2.2.1 = some (tyJxfd54e k) := by decide +kernel
def RJx3cf43 : String := "java/lang/constant/ConstantDesc"
def TJx3cf43 : u_T := fun k => match k with
  | _ => ("", "", "", false)
def tyJx3cf43 : Nat → FieldType := fun k => match k with
  | _ => .int
abbrev wsJx3cf430 : List Cond := u_ws RJx3cf43 TJx3cf43 0
theorem nmJx3cf43 : ∀ a, a < 0 → ∀ b, b < 0 → a ≠ b → (TJx3cf43 a).2.1 ≠ (TJx3cf43 b).2.1 := by decide +kernel
theorem tyJx3cf43_ok : ∀ k, k < 0 → parseFieldDescriptor (TJx3cf43 k).2.2.1 = some (tyJx3cf43 k) := by decide +kernel
def RJ7 : String := "java/util/Arrays"
def TJ7 : u_T := fun k => match k with
  | _ => ("", "", "", false)
def tyJ7 : Nat → FieldType := fun k => match k with
  | _ => .int
abbrev wsJ70 : List Cond := u_ws RJ7 TJ7 0
theorem nmJ7 : ∀ a, a < 0 → ∀ b, b < 0 → a ≠ b → (TJ7 a).2.1 ≠ (TJ7 b).2.1 := by decide +kernel
theorem tyJ7_ok : ∀ k, k < 0 → parseFieldDescriptor (TJ7 k).2.2.1 = some (tyJ7 k) := by decide +kernel
abbrev cJ7_fill_d0a16 : ByteArray := prog_21_method_101_code
def yJ7_fill_d0a16 : MethodName := ⟨RJ7, "fill", "([JJ)V"⟩
abbrev cJ7_fill_53178 : ByteArray := prog_21_method_103_code
def yJ7_fill_53178 : MethodName := ⟨RJ7, "fill", "([II)V"⟩
def RJ3 : String := "jdk/internal/util/Preconditions"
def TJ3 : u_T := fun k => match k with
  | _ => ("", "", "", false)
def tyJ3 : Nat → FieldType := fun k => match k with
  | _ => .int
abbrev wsJ30 : List Cond := u_ws RJ3 TJ3 0
theorem nmJ3 : ∀ a, a < 0 → ∀ b, b < 0 → a ≠ b → (TJ3 a).2.1 ≠ (TJ3 b).2.1 := by decide +kernel
theorem tyJ3_ok : ∀ k, k < 0 → parseFieldDescriptor (TJ3 k).2.2.1 = some (tyJ3 k) := by decide +kernel
abbrev cJ3_checkIndex_8e157 : ByteArray := prog_22_method_11_code
def yJ3_checkIndex_8e157 : MethodName := ⟨RJ3, "checkIndex", "(IILjava/util/function/BiFunction;)I"⟩
def RL : String := "SameKeeperLaw"
abbrev cL_law : ByteArray := code
def yL_law : MethodName := ⟨RL, "law", "([I)Z"⟩
abbrev vwCl : List vw_C := [(RX0, TX0, 6), (RX1, TX1, 9), (RX2, TX2, 10), (RX3, TX3, 3), (RX4, TX4, 5), (RX5, TX5, 4), (RX6, TX6, 8), (RX7, TX7, 7), (RX8, TX8, 2), (RX9, TX9, 6), (RX10, TX10, 2), (RX11, TX11, 18), (RX12, TX12, 92)]
/-- the words that all contracts stand on: those of the tables that outlast a call -/
def wsL_law : List Cond := lw_tbl.filter goodWord
theorem wsL_law_in : ∀ w ∈ wsL_law, w ∈ lw_tbl := fun _ h => (List.mem_filter.mp h).1
theorem sk_mem {w : Cond} (h : w ∈ lw_tbl) (g : goodWord w = true) : w ∈ wsL_law := List.mem_filter.mpr ⟨h, g⟩
theorem ck_0 : ∀ w ∈ k2_sels lw_privs, w ∈ lw_tbl := fun _ h => List.mem_append_left _ h
theorem ck_1 : ∀ w ∈ tables_1_1, w ∈ lw_tbl := fun _ h => List.mem_append_right _ (List.mem_append_left _ h)
theorem ck_2 : ∀ w ∈ tables_1_2, w ∈ lw_tbl := fun _ h => List.mem_append_right _ (List.mem_append_right _ (List.mem_append_left _ h))
theorem ck_3 : ∀ w ∈ tables_1_3, w ∈ lw_tbl := fun _ h => List.mem_append_right _ (List.mem_append_right _ (List.mem_append_right _ (List.mem_append_left _ h)))
theorem ck_4 : ∀ w ∈ tables_1_4, w ∈ lw_tbl := fun _ h => List.mem_append_right _ (List.mem_append_right _ (List.mem_append_right _ (List.mem_append_right _ (List.mem_append_left _ h))))
theorem ck_5 : ∀ w ∈ tables_1_5, w ∈ lw_tbl := fun _ h => List.mem_append_right _ (List.mem_append_right _ (List.mem_append_right _ (List.mem_append_right _ (List.mem_append_right _ (List.mem_append_left _ h)))))
theorem ck_6 : ∀ w ∈ tables_1_6, w ∈ lw_tbl := fun _ h => List.mem_append_right _ (List.mem_append_right _ (List.mem_append_right _ (List.mem_append_right _ (List.mem_append_right _ (List.mem_append_right _ (List.mem_append_left _ h))))))
theorem ck_7 : ∀ w ∈ tables_1_7, w ∈ lw_tbl := fun _ h => List.mem_append_right _ (List.mem_append_right _ (List.mem_append_right _ (List.mem_append_right _ (List.mem_append_right _ (List.mem_append_right _ (List.mem_append_right _ (List.mem_append_left _ h)))))))
theorem ck_8 : ∀ w ∈ tables_1_8, w ∈ lw_tbl := fun _ h => List.mem_append_right _ (List.mem_append_right _ (List.mem_append_right _ (List.mem_append_right _ (List.mem_append_right _ (List.mem_append_right _ (List.mem_append_right _ (List.mem_append_right _ (h))))))))
theorem inlX0 : ∀ w ∈ u_ws RX0 TX0 6, w ∈ wsL_law := fun w hw => by
  obtain ⟨k, hk, rfl⟩ := List.mem_map.mp hw
  have hk := List.mem_range.mp hk
  match k, hk with
  | 0, _ => exact sk_mem (ck_1 _ (List.mem_of_getElem? (i := 138) rfl)) rfl
  | 1, _ => exact sk_mem (ck_1 _ (List.mem_of_getElem? (i := 140) rfl)) rfl
  | 2, _ => exact sk_mem (ck_1 _ (List.mem_of_getElem? (i := 142) rfl)) rfl
  | 3, _ => exact sk_mem (ck_1 _ (List.mem_of_getElem? (i := 144) rfl)) rfl
  | 4, _ => exact sk_mem (ck_1 _ (List.mem_of_getElem? (i := 146) rfl)) rfl
  | 5, _ => exact sk_mem (ck_1 _ (List.mem_of_getElem? (i := 148) rfl)) rfl
  | n + 6, h => exact absurd h (by omega)
theorem inlX1 : ∀ w ∈ u_ws RX1 TX1 9, w ∈ wsL_law := fun w hw => by
  obtain ⟨k, hk, rfl⟩ := List.mem_map.mp hw
  have hk := List.mem_range.mp hk
  match k, hk with
  | 0, _ => exact sk_mem (ck_2 _ (List.mem_of_getElem? (i := 104) rfl)) rfl
  | 1, _ => exact sk_mem (ck_2 _ (List.mem_of_getElem? (i := 106) rfl)) rfl
  | 2, _ => exact sk_mem (ck_2 _ (List.mem_of_getElem? (i := 108) rfl)) rfl
  | 3, _ => exact sk_mem (ck_2 _ (List.mem_of_getElem? (i := 110) rfl)) rfl
  | 4, _ => exact sk_mem (ck_2 _ (List.mem_of_getElem? (i := 112) rfl)) rfl
  | 5, _ => exact sk_mem (ck_2 _ (List.mem_of_getElem? (i := 114) rfl)) rfl
  | 6, _ => exact sk_mem (ck_2 _ (List.mem_of_getElem? (i := 116) rfl)) rfl
  | 7, _ => exact sk_mem (ck_2 _ (List.mem_of_getElem? (i := 118) rfl)) rfl
  | 8, _ => exact sk_mem (ck_2 _ (List.mem_of_getElem? (i := 120) rfl)) rfl
  | n + 9, h => exact absurd h (by omega)
theorem inlX2 : ∀ w ∈ u_ws RX2 TX2 10, w ∈ wsL_law := fun w hw => by
  obtain ⟨k, hk, rfl⟩ := List.mem_map.mp hw
  have hk := List.mem_range.mp hk
  match k, hk with
  | 0, _ => exact sk_mem (ck_1 _ (List.mem_of_getElem? (i := 203) rfl)) rfl
  | 1, _ => exact sk_mem (ck_1 _ (List.mem_of_getElem? (i := 205) rfl)) rfl
  | 2, _ => exact sk_mem (ck_1 _ (List.mem_of_getElem? (i := 207) rfl)) rfl
  | 3, _ => exact sk_mem (ck_1 _ (List.mem_of_getElem? (i := 209) rfl)) rfl
  | 4, _ => exact sk_mem (ck_1 _ (List.mem_of_getElem? (i := 211) rfl)) rfl
  | 5, _ => exact sk_mem (ck_1 _ (List.mem_of_getElem? (i := 213) rfl)) rfl
  | 6, _ => exact sk_mem (ck_1 _ (List.mem_of_getElem? (i := 215) rfl)) rfl
  | 7, _ => exact sk_mem (ck_1 _ (List.mem_of_getElem? (i := 217) rfl)) rfl
  | 8, _ => exact sk_mem (ck_1 _ (List.mem_of_getElem? (i := 219) rfl)) rfl
  | 9, _ => exact sk_mem (ck_1 _ (List.mem_of_getElem? (i := 221) rfl)) rfl
  | n + 10, h => exact absurd h (by omega)
theorem inlX3 : ∀ w ∈ u_ws RX3 TX3 3, w ∈ wsL_law := fun w hw => by
  obtain ⟨k, hk, rfl⟩ := List.mem_map.mp hw
  have hk := List.mem_range.mp hk
  match k, hk with
  | 0, _ => exact sk_mem (ck_1 _ (List.mem_of_getElem? (i := 110) rfl)) rfl
  | 1, _ => exact sk_mem (ck_1 _ (List.mem_of_getElem? (i := 112) rfl)) rfl
  | 2, _ => exact sk_mem (ck_1 _ (List.mem_of_getElem? (i := 114) rfl)) rfl
  | n + 3, h => exact absurd h (by omega)
theorem inlX4 : ∀ w ∈ u_ws RX4 TX4 5, w ∈ wsL_law := fun w hw => by
  obtain ⟨k, hk, rfl⟩ := List.mem_map.mp hw
  have hk := List.mem_range.mp hk
  match k, hk with
  | 0, _ => exact sk_mem (ck_2 _ (List.mem_of_getElem? (i := 46) rfl)) rfl
  | 1, _ => exact sk_mem (ck_2 _ (List.mem_of_getElem? (i := 48) rfl)) rfl
  | 2, _ => exact sk_mem (ck_2 _ (List.mem_of_getElem? (i := 50) rfl)) rfl
  | 3, _ => exact sk_mem (ck_2 _ (List.mem_of_getElem? (i := 52) rfl)) rfl
  | 4, _ => exact sk_mem (ck_2 _ (List.mem_of_getElem? (i := 54) rfl)) rfl
  | n + 5, h => exact absurd h (by omega)
theorem inlX5 : ∀ w ∈ u_ws RX5 TX5 4, w ∈ wsL_law := fun w hw => by
  obtain ⟨k, hk, rfl⟩ := List.mem_map.mp hw
  have hk := List.mem_range.mp hk
  match k, hk with
  | 0, _ => exact sk_mem (ck_1 _ (List.mem_of_getElem? (i := 158) rfl)) rfl
  | 1, _ => exact sk_mem (ck_1 _ (List.mem_of_getElem? (i := 160) rfl)) rfl
  | 2, _ => exact sk_mem (ck_1 _ (List.mem_of_getElem? (i := 162) rfl)) rfl
  | 3, _ => exact sk_mem (ck_1 _ (List.mem_of_getElem? (i := 164) rfl)) rfl
  | n + 4, h => exact absurd h (by omega)
theorem inlX6 : ∀ w ∈ u_ws RX6 TX6 8, w ∈ wsL_law := fun w hw => by
  obtain ⟨k, hk, rfl⟩ := List.mem_map.mp hw
  have hk := List.mem_range.mp hk
  match k, hk with
  | 0, _ => exact sk_mem (ck_1 _ (List.mem_of_getElem? (i := 71) rfl)) rfl
  | 1, _ => exact sk_mem (ck_1 _ (List.mem_of_getElem? (i := 73) rfl)) rfl
  | 2, _ => exact sk_mem (ck_1 _ (List.mem_of_getElem? (i := 75) rfl)) rfl
  | 3, _ => exact sk_mem (ck_1 _ (List.mem_of_getElem? (i := 77) rfl)) rfl
  | 4, _ => exact sk_mem (ck_1 _ (List.mem_of_getElem? (i := 79) rfl)) rfl
  | 5, _ => exact sk_mem (ck_1 _ (List.mem_of_getElem? (i := 81) rfl)) rfl
  | 6, _ => exact sk_mem (ck_1 _ (List.mem_of_getElem? (i := 83) rfl)) rfl
  | 7, _ => exact sk_mem (ck_1 _ (List.mem_of_getElem? (i := 85) rfl)) rfl
  | n + 8, h => exact absurd h (by omega)
theorem inlX7 : ∀ w ∈ u_ws RX7 TX7 7, w ∈ wsL_law := fun w hw => by
  obtain ⟨k, hk, rfl⟩ := List.mem_map.mp hw
  have hk := List.mem_range.mp hk
  match k, hk with
  | 0, _ => exact sk_mem (ck_2 _ (List.mem_of_getElem? (i := 16) rfl)) rfl
  | 1, _ => exact sk_mem (ck_2 _ (List.mem_of_getElem? (i := 18) rfl)) rfl
  | 2, _ => exact sk_mem (ck_2 _ (List.mem_of_getElem? (i := 20) rfl)) rfl
  | 3, _ => exact sk_mem (ck_2 _ (List.mem_of_getElem? (i := 22) rfl)) rfl
  | 4, _ => exact sk_mem (ck_2 _ (List.mem_of_getElem? (i := 24) rfl)) rfl
  | 5, _ => exact sk_mem (ck_2 _ (List.mem_of_getElem? (i := 26) rfl)) rfl
  | 6, _ => exact sk_mem (ck_2 _ (List.mem_of_getElem? (i := 28) rfl)) rfl
  | n + 7, h => exact absurd h (by omega)
theorem inlX8 : ∀ w ∈ u_ws RX8 TX8 2, w ∈ wsL_law := fun w hw => by
  obtain ⟨k, hk, rfl⟩ := List.mem_map.mp hw
  have hk := List.mem_range.mp hk
  match k, hk with
  | 0, _ => exact sk_mem (ck_1 _ (List.mem_of_getElem? (i := 102) rfl)) rfl
  | 1, _ => exact sk_mem (ck_1 _ (List.mem_of_getElem? (i := 104) rfl)) rfl
  | n + 2, h => exact absurd h (by omega)
theorem inlX9 : ∀ w ∈ u_ws RX9 TX9 6, w ∈ wsL_law := fun w hw => by
  obtain ⟨k, hk, rfl⟩ := List.mem_map.mp hw
  have hk := List.mem_range.mp hk
  match k, hk with
  | 0, _ => exact sk_mem (ck_2 _ (List.mem_of_getElem? (i := 76) rfl)) rfl
  | 1, _ => exact sk_mem (ck_2 _ (List.mem_of_getElem? (i := 78) rfl)) rfl
  | 2, _ => exact sk_mem (ck_2 _ (List.mem_of_getElem? (i := 80) rfl)) rfl
  | 3, _ => exact sk_mem (ck_2 _ (List.mem_of_getElem? (i := 82) rfl)) rfl
  | 4, _ => exact sk_mem (ck_2 _ (List.mem_of_getElem? (i := 84) rfl)) rfl
  | 5, _ => exact sk_mem (ck_2 _ (List.mem_of_getElem? (i := 86) rfl)) rfl
  | n + 6, h => exact absurd h (by omega)
theorem inlX10 : ∀ w ∈ u_ws RX10 TX10 2, w ∈ wsL_law := fun w hw => by
  obtain ⟨k, hk, rfl⟩ := List.mem_map.mp hw
  have hk := List.mem_range.mp hk
  match k, hk with
  | 0, _ => exact sk_mem (ck_1 _ (List.mem_of_getElem? (i := 44) rfl)) rfl
  | 1, _ => exact sk_mem (ck_1 _ (List.mem_of_getElem? (i := 46) rfl)) rfl
  | n + 2, h => exact absurd h (by omega)
theorem inlX11 : ∀ w ∈ u_ws RX11 TX11 18, w ∈ wsL_law := fun w hw => by
  obtain ⟨k, hk, rfl⟩ := List.mem_map.mp hw
  have hk := List.mem_range.mp hk
  match k, hk with
  | 0, _ => exact sk_mem (ck_2 _ (List.mem_of_getElem? (i := 141) rfl)) rfl
  | 1, _ => exact sk_mem (ck_2 _ (List.mem_of_getElem? (i := 143) rfl)) rfl
  | 2, _ => exact sk_mem (ck_2 _ (List.mem_of_getElem? (i := 145) rfl)) rfl
  | 3, _ => exact sk_mem (ck_2 _ (List.mem_of_getElem? (i := 147) rfl)) rfl
  | 4, _ => exact sk_mem (ck_2 _ (List.mem_of_getElem? (i := 149) rfl)) rfl
  | 5, _ => exact sk_mem (ck_2 _ (List.mem_of_getElem? (i := 151) rfl)) rfl
  | 6, _ => exact sk_mem (ck_2 _ (List.mem_of_getElem? (i := 153) rfl)) rfl
  | 7, _ => exact sk_mem (ck_2 _ (List.mem_of_getElem? (i := 155) rfl)) rfl
  | 8, _ => exact sk_mem (ck_2 _ (List.mem_of_getElem? (i := 157) rfl)) rfl
  | 9, _ => exact sk_mem (ck_2 _ (List.mem_of_getElem? (i := 159) rfl)) rfl
  | 10, _ => exact sk_mem (ck_2 _ (List.mem_of_getElem? (i := 161) rfl)) rfl
  | 11, _ => exact sk_mem (ck_2 _ (List.mem_of_getElem? (i := 163) rfl)) rfl
  | 12, _ => exact sk_mem (ck_2 _ (List.mem_of_getElem? (i := 165) rfl)) rfl
  | 13, _ => exact sk_mem (ck_2 _ (List.mem_of_getElem? (i := 167) rfl)) rfl
  | 14, _ => exact sk_mem (ck_2 _ (List.mem_of_getElem? (i := 169) rfl)) rfl
  | 15, _ => exact sk_mem (ck_2 _ (List.mem_of_getElem? (i := 171) rfl)) rfl
  | 16, _ => exact sk_mem (ck_2 _ (List.mem_of_getElem? (i := 173) rfl)) rfl
  | 17, _ => exact sk_mem (ck_2 _ (List.mem_of_getElem? (i := 175) rfl)) rfl
  | n + 18, h => exact absurd h (by omega)
theorem inlX12 : ∀ w ∈ u_ws RX12 TX12 92, w ∈ wsL_law := fun w hw => by
  obtain ⟨k, hk, rfl⟩ := List.mem_map.mp hw
  have hk := List.mem_range.mp hk
  match k, hk with
  | 0, _ => exact sk_mem (ck_6 _ (List.mem_of_getElem? (i := 7) rfl)) rfl
  | 1, _ => exact sk_mem (ck_6 _ (List.mem_of_getElem? (i := 9) rfl)) rfl
  | 2, _ => exact sk_mem (ck_6 _ (List.mem_of_getElem? (i := 11) rfl)) rfl
  | 3, _ => exact sk_mem (ck_6 _ (List.mem_of_getElem? (i := 13) rfl)) rfl
  | 4, _ => exact sk_mem (ck_6 _ (List.mem_of_getElem? (i := 15) rfl)) rfl
  | 5, _ => exact sk_mem (ck_6 _ (List.mem_of_getElem? (i := 17) rfl)) rfl
  | 6, _ => exact sk_mem (ck_6 _ (List.mem_of_getElem? (i := 19) rfl)) rfl
  | 7, _ => exact sk_mem (ck_6 _ (List.mem_of_getElem? (i := 21) rfl)) rfl
  | 8, _ => exact sk_mem (ck_6 _ (List.mem_of_getElem? (i := 23) rfl)) rfl
  | 9, _ => exact sk_mem (ck_6 _ (List.mem_of_getElem? (i := 25) rfl)) rfl
  | 10, _ => exact sk_mem (ck_6 _ (List.mem_of_getElem? (i := 27) rfl)) rfl
  | 11, _ => exact sk_mem (ck_6 _ (List.mem_of_getElem? (i := 29) rfl)) rfl
  | 12, _ => exact sk_mem (ck_6 _ (List.mem_of_getElem? (i := 31) rfl)) rfl
  | 13, _ => exact sk_mem (ck_6 _ (List.mem_of_getElem? (i := 33) rfl)) rfl
  | 14, _ => exact sk_mem (ck_6 _ (List.mem_of_getElem? (i := 35) rfl)) rfl
  | 15, _ => exact sk_mem (ck_6 _ (List.mem_of_getElem? (i := 37) rfl)) rfl
  | 16, _ => exact sk_mem (ck_6 _ (List.mem_of_getElem? (i := 39) rfl)) rfl
  | 17, _ => exact sk_mem (ck_6 _ (List.mem_of_getElem? (i := 41) rfl)) rfl
  | 18, _ => exact sk_mem (ck_6 _ (List.mem_of_getElem? (i := 43) rfl)) rfl
  | 19, _ => exact sk_mem (ck_6 _ (List.mem_of_getElem? (i := 45) rfl)) rfl
  | 20, _ => exact sk_mem (ck_6 _ (List.mem_of_getElem? (i := 47) rfl)) rfl
  | 21, _ => exact sk_mem (ck_6 _ (List.mem_of_getElem? (i := 49) rfl)) rfl
  | 22, _ => exact sk_mem (ck_6 _ (List.mem_of_getElem? (i := 51) rfl)) rfl
  | 23, _ => exact sk_mem (ck_6 _ (List.mem_of_getElem? (i := 53) rfl)) rfl
  | 24, _ => exact sk_mem (ck_6 _ (List.mem_of_getElem? (i := 55) rfl)) rfl
  | 25, _ => exact sk_mem (ck_6 _ (List.mem_of_getElem? (i := 57) rfl)) rfl
  | 26, _ => exact sk_mem (ck_6 _ (List.mem_of_getElem? (i := 59) rfl)) rfl
  | 27, _ => exact sk_mem (ck_6 _ (List.mem_of_getElem? (i := 61) rfl)) rfl
  | 28, _ => exact sk_mem (ck_6 _ (List.mem_of_getElem? (i := 63) rfl)) rfl
  | 29, _ => exact sk_mem (ck_6 _ (List.mem_of_getElem? (i := 65) rfl)) rfl
  | 30, _ => exact sk_mem (ck_6 _ (List.mem_of_getElem? (i := 67) rfl)) rfl
  | 31, _ => exact sk_mem (ck_6 _ (List.mem_of_getElem? (i := 69) rfl)) rfl
  | 32, _ => exact sk_mem (ck_6 _ (List.mem_of_getElem? (i := 71) rfl)) rfl
  | 33, _ => exact sk_mem (ck_6 _ (List.mem_of_getElem? (i := 73) rfl)) rfl
  | 34, _ => exact sk_mem (ck_6 _ (List.mem_of_getElem? (i := 75) rfl)) rfl
  | 35, _ => exact sk_mem (ck_6 _ (List.mem_of_getElem? (i := 77) rfl)) rfl
  | 36, _ => exact sk_mem (ck_6 _ (List.mem_of_getElem? (i := 79) rfl)) rfl
  | 37, _ => exact sk_mem (ck_6 _ (List.mem_of_getElem? (i := 81) rfl)) rfl
  | 38, _ => exact sk_mem (ck_6 _ (List.mem_of_getElem? (i := 83) rfl)) rfl
  | 39, _ => exact sk_mem (ck_6 _ (List.mem_of_getElem? (i := 85) rfl)) rfl
  | 40, _ => exact sk_mem (ck_6 _ (List.mem_of_getElem? (i := 87) rfl)) rfl
  | 41, _ => exact sk_mem (ck_6 _ (List.mem_of_getElem? (i := 89) rfl)) rfl
  | 42, _ => exact sk_mem (ck_6 _ (List.mem_of_getElem? (i := 91) rfl)) rfl
  | 43, _ => exact sk_mem (ck_6 _ (List.mem_of_getElem? (i := 93) rfl)) rfl
  | 44, _ => exact sk_mem (ck_6 _ (List.mem_of_getElem? (i := 95) rfl)) rfl
  | 45, _ => exact sk_mem (ck_6 _ (List.mem_of_getElem? (i := 97) rfl)) rfl
  | 46, _ => exact sk_mem (ck_6 _ (List.mem_of_getElem? (i := 99) rfl)) rfl
  | 47, _ => exact sk_mem (ck_6 _ (List.mem_of_getElem? (i := 101) rfl)) rfl
  | 48, _ => exact sk_mem (ck_6 _ (List.mem_of_getElem? (i := 103) rfl)) rfl
  | 49, _ => exact sk_mem (ck_6 _ (List.mem_of_getElem? (i := 105) rfl)) rfl
  | 50, _ => exact sk_mem (ck_6 _ (List.mem_of_getElem? (i := 107) rfl)) rfl
  | 51, _ => exact sk_mem (ck_6 _ (List.mem_of_getElem? (i := 109) rfl)) rfl
  | 52, _ => exact sk_mem (ck_6 _ (List.mem_of_getElem? (i := 111) rfl)) rfl
  | 53, _ => exact sk_mem (ck_6 _ (List.mem_of_getElem? (i := 113) rfl)) rfl
  | 54, _ => exact sk_mem (ck_6 _ (List.mem_of_getElem? (i := 115) rfl)) rfl
  | 55, _ => exact sk_mem (ck_6 _ (List.mem_of_getElem? (i := 117) rfl)) rfl
  | 56, _ => exact sk_mem (ck_6 _ (List.mem_of_getElem? (i := 119) rfl)) rfl
  | 57, _ => exact sk_mem (ck_6 _ (List.mem_of_getElem? (i := 121) rfl)) rfl
  | 58, _ => exact sk_mem (ck_6 _ (List.mem_of_getElem? (i := 123) rfl)) rfl
  | 59, _ => exact sk_mem (ck_6 _ (List.mem_of_getElem? (i := 125) rfl)) rfl
  | 60, _ => exact sk_mem (ck_6 _ (List.mem_of_getElem? (i := 127) rfl)) rfl
  | 61, _ => exact sk_mem (ck_6 _ (List.mem_of_getElem? (i := 129) rfl)) rfl
  | 62, _ => exact sk_mem (ck_6 _ (List.mem_of_getElem? (i := 131) rfl)) rfl
  | 63, _ => exact sk_mem (ck_6 _ (List.mem_of_getElem? (i := 133) rfl)) rfl
  | 64, _ => exact sk_mem (ck_6 _ (List.mem_of_getElem? (i := 135) rfl)) rfl
  | 65, _ => exact sk_mem (ck_6 _ (List.mem_of_getElem? (i := 137) rfl)) rfl
  | 66, _ => exact sk_mem (ck_6 _ (List.mem_of_getElem? (i := 139) rfl)) rfl
  | 67, _ => exact sk_mem (ck_6 _ (List.mem_of_getElem? (i := 141) rfl)) rfl
  | 68, _ => exact sk_mem (ck_6 _ (List.mem_of_getElem? (i := 143) rfl)) rfl
  | 69, _ => exact sk_mem (ck_6 _ (List.mem_of_getElem? (i := 145) rfl)) rfl
  | 70, _ => exact sk_mem (ck_6 _ (List.mem_of_getElem? (i := 147) rfl)) rfl
  | 71, _ => exact sk_mem (ck_6 _ (List.mem_of_getElem? (i := 149) rfl)) rfl
  | 72, _ => exact sk_mem (ck_6 _ (List.mem_of_getElem? (i := 151) rfl)) rfl
  | 73, _ => exact sk_mem (ck_6 _ (List.mem_of_getElem? (i := 153) rfl)) rfl
  | 74, _ => exact sk_mem (ck_6 _ (List.mem_of_getElem? (i := 155) rfl)) rfl
  | 75, _ => exact sk_mem (ck_6 _ (List.mem_of_getElem? (i := 157) rfl)) rfl
  | 76, _ => exact sk_mem (ck_6 _ (List.mem_of_getElem? (i := 159) rfl)) rfl
  | 77, _ => exact sk_mem (ck_6 _ (List.mem_of_getElem? (i := 161) rfl)) rfl
  | 78, _ => exact sk_mem (ck_6 _ (List.mem_of_getElem? (i := 163) rfl)) rfl
  | 79, _ => exact sk_mem (ck_6 _ (List.mem_of_getElem? (i := 165) rfl)) rfl
  | 80, _ => exact sk_mem (ck_6 _ (List.mem_of_getElem? (i := 167) rfl)) rfl
  | 81, _ => exact sk_mem (ck_6 _ (List.mem_of_getElem? (i := 169) rfl)) rfl
  | 82, _ => exact sk_mem (ck_6 _ (List.mem_of_getElem? (i := 171) rfl)) rfl
  | 83, _ => exact sk_mem (ck_6 _ (List.mem_of_getElem? (i := 173) rfl)) rfl
  | 84, _ => exact sk_mem (ck_6 _ (List.mem_of_getElem? (i := 175) rfl)) rfl
  | 85, _ => exact sk_mem (ck_6 _ (List.mem_of_getElem? (i := 177) rfl)) rfl
  | 86, _ => exact sk_mem (ck_6 _ (List.mem_of_getElem? (i := 179) rfl)) rfl
  | 87, _ => exact sk_mem (ck_6 _ (List.mem_of_getElem? (i := 181) rfl)) rfl
  | 88, _ => exact sk_mem (ck_6 _ (List.mem_of_getElem? (i := 183) rfl)) rfl
  | 89, _ => exact sk_mem (ck_6 _ (List.mem_of_getElem? (i := 185) rfl)) rfl
  | 90, _ => exact sk_mem (ck_6 _ (List.mem_of_getElem? (i := 187) rfl)) rfl
  | 91, _ => exact sk_mem (ck_6 _ (List.mem_of_getElem? (i := 189) rfl)) rfl
  | n + 92, h => exact absurd h (by omega)
end
section
/-! The frame of all contracts here: one list of words for all methods (wsL_law), one list of array classes, a world in and a world out. -/
theorem wsL_good : ∀ w ∈ wsL_law, ((w.onTables && w.keeps) = true ∨ ∃ ty, w = .arrayClass ty) := fun w h => good_of_word (List.mem_filter.mp h).2
abbrev skC (y : MethodName) (cc : ByteArray) (n : Nat) (r : Option FieldType) : List Cond := Cond.code y cc n r :: wsL_law
abbrev skSt : String := "SameKeeper$State"
abbrev skT (cI cJ cC cZ cS : ClassId) : List (ClassId × FieldType) := [(cI, .int), (cJ, .long), (cC, .char), (cZ, .boolean), (cS, .object skSt)]
abbrev skHost : String := "SameKeeper"
def skN (U : State) : Prop := va_Nw (.methodLinkNest RX11 48 yX2_init skHost) U ∧ va_Nw (.methodLinkNest RX11 58 yX7_init skHost) U ∧ va_Nw (.methodLinkNest RX11 75 yX9_init skHost) U ∧ va_Nw (.methodLinkNest RX2 11 yX0_init skHost) U ∧ va_Nw (.methodLinkNest RX4 32 yX7_init skHost) U ∧ va_Nw (.methodLinkNest RX5 11 yX0_init skHost) U
def skK (D : va_G) (tys : List (ClassId × FieldType)) (U : State) : Prop := va_K D vwCl tys U ∧ va_AO skSt U ∧ skN U
theorem skK.warm {D : va_G} {tys : List (ClassId × FieldType)} {s U : State} (h : skK D tys s) (hW : s.WarmedH U.vm) : skK D tys U := ⟨va_K.moved hW.alike h.1, va_AO.moved hW.alike h.2.1, va_Nw.warmM hW h.2.2.1, va_Nw.warmM hW h.2.2.2.1, va_Nw.warmM hW h.2.2.2.2.1, va_Nw.warmM hW h.2.2.2.2.2.1, va_Nw.warmM hW h.2.2.2.2.2.2.1, va_Nw.warmM hW h.2.2.2.2.2.2.2⟩
theorem skK.same {D : va_G} {tys : List (ClassId × FieldType)} {u U : State} (h : skK D tys u) (e : u.vm = U.vm) (ha : u.vm.Alike U.vm) : skK D tys U := ⟨va_K.moved ha h.1, va_AO.moved ha h.2.1, va_Nw.same rfl e h.2.2.1, va_Nw.same rfl e h.2.2.2.1, va_Nw.same rfl e h.2.2.2.2.1, va_Nw.same rfl e h.2.2.2.2.2.1, va_Nw.same rfl e h.2.2.2.2.2.2.1, va_Nw.same rfl e h.2.2.2.2.2.2.2⟩
abbrev skPre (D : va_G) (tys : List (ClassId × FieldType)) (av : List Value) (sz : Nat) (w : va_W) : Array Value → State → Prop := va_Pc av (fun U => U.heap.size = sz ∧ va_P D vwCl w U.heap ∧ skK D tys U ∧ va_D (fun _ => True) w)
abbrev skB (D : va_G) (tys : List (ClassId × FieldType)) (A : Nat → Prop) (u : va_W) (t : State) : Prop := va_P D vwCl u t.heap ∧ skK D tys t ∧ va_D A u
abbrev skI (D : va_G) (tys : List (ClassId × FieldType)) (post : Int32 → va_W → Prop) (A : Nat → Prop) : Array Value → State → Outcome → State → Prop := va_Qi post (skB D tys A) A
abbrev skL (D : va_G) (tys : List (ClassId × FieldType)) (post : Int64 → va_W → Prop) (A : Nat → Prop) : Array Value → State → Outcome → State → Prop := va_Ql post (skB D tys A) A
abbrev skV (D : va_G) (tys : List (ClassId × FieldType)) (post : va_W → Prop) (A : Nat → Prop) : Array Value → State → Outcome → State → Prop := va_Qv post (skB D tys A) A
/-- a contract: any heap that holds the world w -/
def skM (l : Launch) (y : MethodName) (cc : ByteArray) (maxL : Nat) (ret : Option FieldType) (fr lo mc ms : Nat) (D : va_G) (tys : List (ClassId × FieldType)) (av : List Value) (w : va_W) (Qc : (Nat → Prop) → Array Value → State → Outcome → State → Prop) : Prop :=
  ∀ sz : Nat, Met l y (skC y cc maxL ret) { frames := fr, cells := mc, slots := ms, locals := lo } (skPre D tys av sz w) (Qc (va_A w sz)) mc ms (va_A w sz)
def skEnv (p : Program) (s : State) (m : MethodId) (meth : Method) (c : Code) (cc : ByteArray) (ret : Option FieldType) (maxL : Nat) (y : MethodName) (av : List Value) (D : va_G) (tys : List (ClassId × FieldType)) (A : Nat → Prop) : Prop :=
  p.tables.exec = Jvm.exec ∧ c.code = cc ∧ meth.sig.returnType = ret ∧ c.maxLocals = maxL ∧ meth.locks = false ∧ meth.name = y.name ∧ s.vm.findClass y.cls = some m.cls ∧ (∀ w ∈ wsL_law, w.before av.toArray s = true) ∧ skK D tys s ∧ (∀ q, s.heap.size ≤ q → A q)
theorem skM_of {l : Launch} {y : MethodName} {cc : ByteArray} {maxL : Nat} {ret : Option FieldType} {fr lo mc ms : Nat} {D : va_G} {tys : List (ClassId × FieldType)} {av : List Value} {w : va_W} {Qc : (Nat → Prop) → Array Value → State → Outcome → State → Prop}
    (hy : plainName y.cls = true) (hlen : (lg_sl av).length ≤ maxL)
    (body : ∀ (p : Program) (e : Env) (s : State) (m : MethodId) (below : List Frame) (meth : Method) (c : Code) (A : Nat → Prop) (ls : Array Slot), skEnv p s m meth c cc ret maxL y av D tys A → va_P D vwCl w s.heap → va_D A w → lv_has ls maxL (lv_args 0 av) →
      W p l e { frames := fr, cells := mc, slots := ms, locals := lo } s m av.toArray below meth c s.heap [] 0 0 (MQ below (Qc A) av.toArray s mc ms A) (F0 m 0 ls [])) : skM l y cc maxL ret fr lo mc ms D tys av w Qc := by
  intro sz
  refine Met.ofW (cc := cc) (maxL := maxL) (ret := ret) hy rfl ?_
  intro p e s m args below meth c s₁ B hml hv
  obtain ⟨rfl, hsz, hP, hK, hD0⟩ := hv
  have hts := atoms_spec (ws := skC y cc maxL ret) B.pre
  subst hsz
  have hD := hD0.self (sz := s.heap.size)
  have hl := lv_entry av (n := maxL) hlen
  rw [lg_entry_eq]
  exact body p e s m below meth c _ _ ⟨B.exec, B.bytes, B.returns, hml, B.notSynchronized, (name_of_methodNamed B.named B.method).1, findClass_of_methodNamed B.named, fun w hw => hts w (List.mem_cons_of_mem _ hw), hK, fun q h => Or.inr h⟩ hP hD hl
section SkRows
variable {p : Program} {l : Launch} {e : Env} {R : Room} {s : State} {m : MethodId} {args : Array Value} {below : List Frame} {meth : Method} {c : Code} {H : Heap} {locs : List Loc} {cells slots : Nat} {Q : State → Prop}
variable {cc : ByteArray} {pc : Nat} {ls : Array Slot} {rest : List Value} {D : va_G} {tys : List (ClassId × FieldType)} {ws ws' : va_W} {A : Nat → Prop} {H0 : Heap} {a : Nat}
theorem sk_top {x : Int32} (y : Int32) (h : x = y) (k : W p l e R s m args below meth c H locs cells slots Q (F0 m pc ls (.int y :: rest))) : W p l e R s m args below meth c H locs cells slots Q (F0 m pc ls (.int x :: rest)) := by
  subst h; exact k
theorem sk_topl {x : Int64} (y : Int64) (h : x = y) (k : W p l e R s m args below meth c H locs cells slots Q (F0 m pc ls (.long y :: rest))) : W p l e R s m args below meth c H locs cells slots Q (F0 m pc ls (.long x :: rest)) := by
  subst h; exact k
theorem sk_get (hexec : p.tables.exec = Jvm.exec) (hb : c.code = cc) {own C : String} {T : u_T} {N ci index : Nat} (hts : ∀ w ∈ wsL_law, w.before args s = true) (hin : ∀ w ∈ u_ws C T N, w ∈ wsL_law) (hown : s.vm.findClass own = some m.cls) (hK : skK D tys s) (hP : va_P D vwCl ws H) (q0 : Nat) {fs : List Value} (he : ws[q0]? = some (a, .inr (ci, fs))) (hc : vwCl[ci]? = some (C, T, N)) (k : Nat) (hk : k < N) (hlink : Cond.fieldLink own index (T k).1 (T k).2.1 (T k).2.2.1 ∈ wsL_law) {v : Value} (hv : fs[k]? = some v) (hdg : decode cc pc = .ok (.getfield index, 3))
    (kk : W p l e R s m args below meth c H locs cells slots Q (F0 m (pc + 3) ls (v :: rest))) : W p l e R s m args below meth c H locs cells slots Q (F0 m pc ls (.ref a :: rest)) :=
  va_get hexec hb hts hin hown hK.1 hP q0 he hc k hk (hts _ hlink) (fun _ h9 => h9) hv hdg kk
theorem sk_put (hexec : p.tables.exec = Jvm.exec) (hb : c.code = cc) {own C : String} {T : u_T} {N ci index : Nat} (hts : ∀ w ∈ wsL_law, w.before args s = true) (hin : ∀ w ∈ u_ws C T N, w ∈ wsL_law) (ty0 : Nat → FieldType) (hty : ∀ k, k < N → parseFieldDescriptor (T k).2.2.1 = some (ty0 k)) (hnm : ∀ a, a < N → ∀ b, b < N → a ≠ b → (T a).2.1 ≠ (T b).2.1) (hown : s.vm.findClass own = some m.cls) (hK : skK D tys s) (hP : va_P D vwCl ws H) (hD : va_D A ws) (hS0 : va_S A H0 H locs) (q0 : Nat) {fs : List Value} (he : ws[q0]? = some (a, .inr (ci, fs))) (hc : vwCl[ci]? = some (C, T, N)) (k : Nat) (hk : k < N) (hlink : Cond.fieldLink own index (T k).1 (T k).2.1 (T k).2.2.1 ∈ wsL_law) (hfin : (T k).2.2.2 = false) {v : Value} (hn : narrow (ty0 k) v = v) (hfit : fits (ty0 k) v = true) (hl : k < fs.length)
    (hw' : ws.set q0 (a, .inr (ci, fs.set k v)) = ws') (hdg : decode cc pc = .ok (.putfield index, 3)) (kk : ∀ (H1 : Heap) (locs1 : List Loc), va_P D vwCl ws' H1 → va_D A ws' → va_S A H0 H1 locs1 → W p l e R s m args below meth c H1 locs1 cells slots Q (F0 m (pc + 3) ls rest)) : W p l e R s m args below meth c H locs cells slots Q (F0 m pc ls (v :: .ref a :: rest)) := by
  subst hw'
  exact va_put hexec hb hts hin ty0 hty hnm hown hK.1 hP hD hS0 q0 he hc k hk (hts _ hlink) (fun _ h9 => h9) hfin (hty k hk) hn hfit hl hdg kk
theorem sk_putF (hexec : p.tables.exec = Jvm.exec) (hb : c.code = cc) {own C : String} {T : u_T} {N ci index : Nat} (hts : ∀ w ∈ wsL_law, w.before args s = true) (hin : ∀ w ∈ u_ws C T N, w ∈ wsL_law) (ty0 : Nat → FieldType) (hty : ∀ k, k < N → parseFieldDescriptor (T k).2.2.1 = some (ty0 k)) (hnm : ∀ a, a < N → ∀ b, b < N → a ≠ b → (T a).2.1 ≠ (T b).2.1) (hown : s.vm.findClass own = some m.cls) (hK : skK D tys s) (hP : va_P D vwCl ws H) (hD : va_D A ws) (hS0 : va_S A H0 H locs) (q0 : Nat) {fs : List Value} (he : ws[q0]? = some (a, .inr (ci, fs))) (hc : vwCl[ci]? = some (C, T, N)) (k : Nat) (hk : k < N) (hlink : Cond.fieldLink own index (T k).1 (T k).2.1 (T k).2.2.1 ∈ wsL_law) (hfin : (T k).2.2.2 = true) (hin2 : meth.name = "<init>") (hdecl : (T k).1 = own) {v : Value} (hn : narrow (ty0 k) v = v) (hfit : fits (ty0 k) v = true) (hl : k < fs.length)
    (hw' : ws.set q0 (a, .inr (ci, fs.set k v)) = ws') (hdg : decode cc pc = .ok (.putfield index, 3)) (kk : ∀ (H1 : Heap) (locs1 : List Loc), va_P D vwCl ws' H1 → va_D A ws' → va_S A H0 H1 locs1 → W p l e R s m args below meth c H1 locs1 cells slots Q (F0 m (pc + 3) ls rest)) : W p l e R s m args below meth c H locs cells slots Q (F0 m pc ls (v :: .ref a :: rest)) := by
  subst hw'
  exact va_putF hexec hb hts hin ty0 hty hnm hown hK.1 hP hD hS0 q0 he hc k hk (hts _ hlink) (fun _ h9 => h9) hfin hin2 hdecl (hty k hk) hn hfit hl hdg kk
theorem sk_new (hexec : p.tables.exec = Jvm.exec) (hb : c.code = cc) {own C : String} {T : u_T} {N ci index k1 n1 : Nat} (hts : ∀ w ∈ wsL_law, w.before args s = true) (hin : ∀ w ∈ u_ws C T N, w ∈ wsL_law) (ty : Nat → FieldType) (hty : ∀ k, k < N → parseFieldDescriptor (T k).2.2.1 = some (ty k)) (hown : s.vm.findClass own = some m.cls) (hcl : Cond.classLink own index C ∈ wsL_law) (hinst : Cond.instantiable C N ∈ wsL_law) (hini : Cond.initialized C ∈ wsL_law)
    (hK : skK D tys s) (hP : va_P D vwCl ws H) (hD : va_D A ws) (hS : va_S A H0 H locs) (hA : ∀ q, H0.size ≤ q → A q) (hc : vwCl[ci]? = some (C, T, N)) {fs : List Value} (hfs : ∀ j, j < N → defaultValue (ty j) = vp_V fs j) (hk1 : cells + 1 ≤ k1) (hn1 : slots + N ≤ n1) (hcells : k1 ≤ R.cells) (hslots : n1 ≤ R.slots) (hdg : decode cc pc = .ok (.new index, 3))
    (kk : ∀ (q : Nat) (H1 : Heap), va_P D vwCl (ws ++ [(q, .inr (ci, fs))]) H1 → va_D A (ws ++ [(q, .inr (ci, fs))]) → va_S A H0 H1 locs → W p l e R s m args below meth c H1 locs k1 n1 Q (F0 m (pc + 3) ls (.ref q :: rest))) : W p l e R s m args below meth c H locs cells slots Q (F0 m pc ls rest) :=
  va_new hexec hb hts hin ty hty hown (hts _ hcl) (hts _ hinst) (hts _ hini) hK.1 hP hD hS hA hc hfs (Nat.le_trans hk1 hcells) (Nat.le_trans hn1 hslots) hdg (fun q H1 h1 h2 h3 => W.widen hk1 hn1 (kk q H1 h1 h2 h3))
theorem sk_newa (hexec : p.tables.exec = Jvm.exec) (hb : c.code = cc) {atype : ArrayType} {ty : FieldType} {cA : ClassId} {k1 n1 : Nat} (hts : ∀ w ∈ wsL_law, w.before args s = true) (harr : Cond.arrayClass ty ∈ wsL_law) (hty : newarray.typeOf atype = ty) (hRA : ∀ (U : State) (cB : ClassId), va_RA U cB ty → U.vm.findClass ("[" ++ ty.toString) = some cB) (t0 : Nat) (ht : tys[t0]? = some (cA, ty))
    (hK : skK D tys s) (hP : va_P D vwCl ws H) (hD : va_D A ws) (hS : va_S A H0 H locs) (hA : ∀ q, H0.size ≤ q → A q) {n : Int32} {N' : Nat} {a0 : vp_A} (ha : ∀ cA : ClassId, vp_cell cA a0 = arrV cA N' (fun _ => defaultValue ty)) (hn : ¬ n < 0) (hN : n.toNatClampNeg = N') (hbytes : N' * componentBytes ty ≤ 536870912) (hk1 : cells + 1 ≤ k1) (hn1 : slots + N' ≤ n1) (hcells : k1 ≤ R.cells) (hslots : n1 ≤ R.slots) (hdg : decode cc pc = .ok (.newarray atype, 2))
    (kk : ∀ (q : Nat) (H1 : Heap), va_P D vwCl (ws ++ [(q, .inl (cA, a0))]) H1 → va_D A (ws ++ [(q, .inl (cA, a0))]) → va_S A H0 H1 locs → W p l e R s m args below meth c H1 locs k1 n1 Q (F0 m (pc + 2) ls (.ref q :: rest))) : W p l e R s m args below meth c H locs cells slots Q (F0 m pc ls (.int n :: rest)) := by
  refine va_newa hexec hb (by rw [hty]; exact hts _ harr) hty hK.1 hP hD hS hA ha hn hN hbytes (Nat.le_trans hk1 hcells) (Nat.le_trans hn1 hslots) hdg (fun q cB H1 hK' hP' hD' hS' => ?_)
  have e1 : cB = cA := Option.some.inj ((hRA s cB ((hK'.2 tys.length (cB, ty) (by simp)).2)).symm.trans (hRA s cA (hK.1.2 t0 _ ht).2))
  subst e1
  exact W.widen hk1 hn1 (kk q H1 hP' hD' hS')
theorem sk_newq (hexec : p.tables.exec = Jvm.exec) (hb : c.code = cc) {own : String} {index k1 n1 : Nat} {cA : ClassId} (hts : ∀ w ∈ wsL_law, w.before args s = true) (hown : s.vm.findClass own = some m.cls) (hcl : Cond.classLink own index skSt ∈ wsL_law) (t0 : Nat) (ht : tys[t0]? = some (cA, .object skSt))
    (hK : skK D tys s) (hP : va_P D vwCl ws H) (hD : va_D A ws) (hS : va_S A H0 H locs) (hA : ∀ q, H0.size ≤ q → A q) {n : Int32} {N' : Nat} (hn : ¬ n < 0) (hN : n.toNatClampNeg = N') (hbytes : N' * 4 ≤ 536870912) (hk1 : cells + 1 ≤ k1) (hn1 : slots + N' ≤ n1) (hcells : k1 ≤ R.cells) (hslots : n1 ≤ R.slots) (hdg : decode cc pc = .ok (.anewarray index, 3))
    (kk : ∀ (q : Nat) (H1 : Heap), va_P D vwCl (ws ++ [(q, .inl (cA, N', .inr (.inr (.inr (.inr (fun _ => none))))))]) H1 → va_D A (ws ++ [(q, .inl (cA, N', .inr (.inr (.inr (.inr (fun _ => none))))))]) → va_S A H0 H1 locs → W p l e R s m args below meth c H1 locs k1 n1 Q (F0 m (pc + 3) ls (.ref q :: rest))) : W p l e R s m args below meth c H locs cells slots Q (F0 m pc ls (.int n :: rest)) := by
  refine va_newq hexec hb hown (hts _ hcl) hK.2.1 hK.1 hP hD hS hA hn hN hbytes (Nat.le_trans hk1 hcells) (Nat.le_trans hn1 hslots) hdg (fun q cB H1 hK' hP' hD' hS' => ?_)
  obtain ⟨_, _, _, _, _, f1⟩ := (hK'.2 tys.length (cB, .object skSt) (by simp)).2
  obtain ⟨_, _, _, _, _, f2⟩ := (hK.1.2 t0 _ ht).2
  have e1 : cB = cA := Option.some.inj (f1.symm.trans f2)
  subst e1
  exact W.widen hk1 hn1 (kk q H1 hP' hD' hS')
theorem sk_iast (hexec : p.tables.exec = Jvm.exec) (hb : c.code = cc) (hK : skK D tys s) (hP : va_P D vwCl ws H) (hD : va_D A ws) (hS : va_S A H0 H locs) (q0 t0 : Nat) {cA : ClassId} {n : Nat} {f : Nat → Int32} (ha : ws[q0]? = some (a, .inl (cA, n, .inl f))) (ht : tys[t0]? = some (cA, .int)) {i x : Int32} (hin : vp_in i n) (hw' : ws.set q0 (a, .inl (cA, n, .inl (upd f i.toNatClampNeg x))) = ws') (hdg : decode cc pc = .ok (.iastore, 1))
    (kk : ∀ (H1 : Heap) (locs1 : List Loc), va_P D vwCl ws' H1 → va_D A ws' → va_S A H0 H1 locs1 → W p l e R s m args below meth c H1 locs1 cells slots Q (F0 m (pc + 1) ls rest)) : W p l e R s m args below meth c H locs cells slots Q (F0 m pc ls (.int x :: .int i :: .ref a :: rest)) := by
  subst hw'
  exact va_iast hexec hb hK.1 hP hD hS q0 t0 ha ht hin hdg kk
theorem sk_iastO (hexec : p.tables.exec = Jvm.exec) (hb : c.code = cc) (hK : skK D tys s) (hP : va_P D vwCl ws H) (hD : va_D A ws) (hS : va_S A H0 H locs) (q0 t0 : Nat) {cA : ClassId} {n : Nat} {f : Nat → Int32} {ws' : (Nat → Int32) → va_W} (ha : ws[q0]? = some (a, .inl (cA, n, .inl f))) (ht : tys[t0]? = some (cA, .int)) {i x : Int32} (hin : vp_in i n) (hw' : ∀ f', ws.set q0 (a, .inl (cA, n, .inl f')) = ws' f') (hdg : decode cc pc = .ok (.iastore, 1))
    (kk : ∀ (f' : Nat → Int32) (H1 : Heap) (locs1 : List Loc), va_P D vwCl (ws' f') H1 → va_D A (ws' f') → va_S A H0 H1 locs1 → W p l e R s m args below meth c H1 locs1 cells slots Q (F0 m (pc + 1) ls rest)) : W p l e R s m args below meth c H locs cells slots Q (F0 m pc ls (.int x :: .int i :: .ref a :: rest)) :=
  va_iast hexec hb hK.1 hP hD hS q0 t0 ha ht hin hdg (fun H1 locs1 h1 h2 h3 => kk _ H1 locs1 ((hw' _) ▸ h1) ((hw' _) ▸ h2) h3)
theorem sk_iast0 (hexec : p.tables.exec = Jvm.exec) (hb : c.code = cc) (hK : skK D tys s) (hP : va_P D vwCl ws H) (hD : va_D A ws) (hS : va_S A H0 H locs) (q0 t0 : Nat) {cA : ClassId} {n : Nat} (ha : ws[q0]? = some (a, .inl (cA, n, .inl (fun _ => 0)))) (ht : tys[t0]? = some (cA, .int)) {i : Int32} (hin : vp_in i n) (hdg : decode cc pc = .ok (.iastore, 1))
    (kk : ∀ (H1 : Heap) (locs1 : List Loc), va_P D vwCl ws H1 → va_D A ws → va_S A H0 H1 locs1 → W p l e R s m args below meth c H1 locs1 cells slots Q (F0 m (pc + 1) ls rest)) : W p l e R s m args below meth c H locs cells slots Q (F0 m pc ls (.int 0 :: .int i :: .ref a :: rest)) := by
  refine va_iast hexec hb hK.1 hP hD hS q0 t0 ha ht hin hdg (fun H1 locs1 h1 h2 h3 => ?_)
  have hu : upd (fun _ => (0 : Int32)) i.toNatClampNeg 0 = fun _ => 0 := by funext j; simp [upd]
  have hw : ws.set q0 (a, .inl (cA, n, .inl (upd (fun _ => (0 : Int32)) i.toNatClampNeg 0))) = ws := by
    rw [hu]
    refine List.ext_getElem? (fun j => ?_)
    rw [List.getElem?_set]
    by_cases hj : q0 = j
    · subst hj
      have hlt : q0 < ws.length := (List.getElem?_eq_some_iff.mp ha).1
      rw [if_pos rfl, if_pos hlt, ha]
    · rw [if_neg hj]
  rw [hw] at h1 h2
  exact kk H1 locs1 h1 h2 h3
theorem sk_castO (hexec : p.tables.exec = Jvm.exec) (hb : c.code = cc) (hK : skK D tys s) (hP : va_P D vwCl ws H) (hD : va_D A ws) (hS : va_S A H0 H locs) (q0 t0 : Nat) {cA : ClassId} {n : Nat} {f : Nat → Int32} {ws' : (Nat → Int32) → va_W} (ha : ws[q0]? = some (a, .inl (cA, n, .inl f))) (ht : tys[t0]? = some (cA, .char)) {i x : Int32} (hin : vp_in i n) (hw' : ∀ f', ws.set q0 (a, .inl (cA, n, .inl f')) = ws' f') (hdg : decode cc pc = .ok (.castore, 1))
    (kk : ∀ (f' : Nat → Int32) (H1 : Heap) (locs1 : List Loc), va_P D vwCl (ws' f') H1 → va_D A (ws' f') → va_S A H0 H1 locs1 → W p l e R s m args below meth c H1 locs1 cells slots Q (F0 m (pc + 1) ls rest)) : W p l e R s m args below meth c H locs cells slots Q (F0 m pc ls (.int x :: .int i :: .ref a :: rest)) :=
  va_cast hexec hb hK.1 hP hD hS q0 t0 ha ht hin hdg (fun H1 locs1 h1 h2 h3 => kk _ H1 locs1 ((hw' _) ▸ h1) ((hw' _) ▸ h2) h3)
theorem sk_astO (hexec : p.tables.exec = Jvm.exec) (hb : c.code = cc) (hK : skK D tys s) (hP : va_P D vwCl ws H) (hD : va_D A ws) (hS : va_S A H0 H locs) (q0 t0 qk ci : Nat) {cA : ClassId} {r : vw_C} {n v : Nat} {vs : List Value} {f : Nat → Option Nat} {ws' : (Nat → Option Nat) → va_W} (ha : ws[q0]? = some (a, .inl (cA, n, .inr (.inr (.inr (.inr f)))))) (ht : tys[t0]? = some (cA, .object r.1)) (hv : ws[qk]? = some (v, .inr (ci, vs))) (hc : vwCl[ci]? = some r) {i : Int32} (hin : vp_in i n) (hw' : ∀ f', ws.set q0 (a, .inl (cA, n, .inr (.inr (.inr (.inr f'))))) = ws' f') (hdg : decode cc pc = .ok (.aastore, 1))
    (kk : ∀ (f' : Nat → Option Nat) (H1 : Heap) (locs1 : List Loc), va_P D vwCl (ws' f') H1 → va_D A (ws' f') → va_S A H0 H1 locs1 → W p l e R s m args below meth c H1 locs1 cells slots Q (F0 m (pc + 1) ls rest)) : W p l e R s m args below meth c H locs cells slots Q (F0 m pc ls (.ref v :: .int i :: .ref a :: rest)) :=
  va_astq hexec hb hK.1 hP hD hS q0 t0 qk ci ha ht hv hc hin hdg (fun H1 locs1 h1 h2 h3 => kk _ H1 locs1 ((hw' _) ▸ h1) ((hw' _) ▸ h2) h3)
theorem sk_vret {post : va_W → Prop} {mc ms : Nat} (hexec : p.tables.exec = Jvm.exec) (hb : c.code = cc) (hr : meth.sig.returnType = none) (hlocks : meth.locks = false) (hK : skK D tys s) (hP : va_P D vwCl ws H) (hD : va_D A ws) (hS : va_S A s.heap H locs) (hpost : post ws) (h1 : cells ≤ mc) (h2 : slots ≤ ms) (hdg : decode cc pc = .ok (.return_, 1)) :
    W p l e R s m args below meth c H locs cells slots (MQ below (skV D tys post A) args s mc ms A) (F0 m pc ls []) :=
  W.widen h1 h2 (W.vret hexec hb hr (fun t ht hW => ⟨⟨ws, rfl, hpost, by rw [ht]; exact hP, hK.warm hW, hD⟩, hS.F ht⟩) hS.2.2 hdg hlocks)
theorem sk_iret {post : Int32 → va_W → Prop} {mc ms : Nat} {v : Int32} {ty : FieldType} (hexec : p.tables.exec = Jvm.exec) (hb : c.code = cc) (hr : meth.sig.returnType = some ty) (hn : narrow ty (.int v) = .int v) (hlocks : meth.locks = false) (hK : skK D tys s) (hP : va_P D vwCl ws H) (hD : va_D A ws) (hS : va_S A s.heap H locs) (hpost : post v ws) (h1 : cells ≤ mc) (h2 : slots ≤ ms) (hdg : decode cc pc = .ok (.ireturn, 1)) :
    W p l e R s m args below meth c H locs cells slots (MQ below (skI D tys post A) args s mc ms A) (F0 m pc ls [.int v]) :=
  W.widen h1 h2 (W.zret hexec hb hr hn (fun t ht hW => ⟨⟨v, ws, rfl, hpost, by rw [ht]; exact hP, hK.warm hW, hD⟩, hS.F ht⟩) hS.2.2 hdg hlocks)
theorem sk_lret {post : Int64 → va_W → Prop} {mc ms : Nat} {v : Int64} (hexec : p.tables.exec = Jvm.exec) (hb : c.code = cc) (hr : meth.sig.returnType = some .long) (hlocks : meth.locks = false) (hK : skK D tys s) (hP : va_P D vwCl ws H) (hD : va_D A ws) (hS : va_S A s.heap H locs) (hpost : post v ws) (h1 : cells ≤ mc) (h2 : slots ≤ ms) (hdg : decode cc pc = .ok (.lreturn, 1)) :
    W p l e R s m args below meth c H locs cells slots (MQ below (skL D tys post A) args s mc ms A) (F0 m pc ls [.long v]) :=
  W.widen h1 h2 (W.lret hexec hb hr (fun t ht hW => ⟨⟨v, ws, rfl, hpost, by rw [ht]; exact hP, hK.warm hW, hD⟩, hS.F ht⟩) hS.2.2 hdg hlocks)
theorem sk_blind (D : va_G) (tys : List (ClassId × FieldType)) (av : List Value) (sz : Nat) (w : va_W) : FrameBlind (skPre D tys av sz w) := fun a U g mk q => by
  obtain ⟨q0, q1, qP, qK, qD⟩ := q
  exact ⟨q0, q1, qP, skK.same (u := U) (U := U.calling g mk a) qK rfl (Vm.Alike.refl U.vm), qD⟩
theorem sk_good {y : MethodName} {bytes : ByteArray} {maxL : Nat} {ret : Option FieldType} (h5 : Cond.code y bytes maxL ret ∈ wsL_law) : GoodIn wsL_law (skC y bytes maxL ret) := fun w hw => by
  rcases List.mem_cons.mp hw with rfl | h
  · exact ⟨h5, wsL_good _ h5⟩
  · exact ⟨h, wsL_good _ h⟩
abbrev skD (y : MethodName) (n : Nat) : Prop := y.cls ≠ "java/lang/invoke/MethodHandle" ∧ y.cls ≠ "java/lang/invoke/VarHandle" ∧ (parseMethodDescriptor y.desc).map (fun d => d.parameters.length) = some n
abbrev skR (R : Room) (fr lo mc ms maxL cells slots : Nat) : Prop := (fr + 1 ≤ R.frames ∧ 8 + (maxL + 11) + lo ≤ R.locals) ∧ cells + mc ≤ R.cells ∧ slots + ms ≤ R.slots
section SkCalls
variable {y : MethodName} {bytes : ByteArray} {maxL nL fr lo mc ms n index ci q0 N : Nat} {ret : Option FieldType} {own C : String} {b : Nat} {As st0 : List Value} {wc wr : va_W} {fs : List Value} {T : u_T}
theorem sk_preV (hK : skK D tys s) (hP : va_P D vwCl ws H) (hD : va_D A ws) (isC : List Nat) (hC : isC.map (fun i => ws[i]?) = wc.map some) (hnC : va_nd isC = true) (av : List Value) : PreS s H (skPre D tys av H.size wc) av := by
  have hPc : va_P D vwCl wc H := hP.sub isC (by
    have h9 : isC.filterMap (fun i => ws[i]?) = (isC.map (fun i => ws[i]?)).filterMap id := by rw [List.filterMap_map]; rfl
    rw [h9, hC]
    simp [List.filterMap_map])
  have hDc : va_D A wc := hD.sub isC hnC hC
  exact ⟨sk_blind D tys av H.size wc, fun U hU hW => ⟨rfl, by rw [hU], by rw [hU]; exact hPc, hK.warm hW, hDc.weaken (fun _ _ _ _ => trivial)⟩⟩
theorem sk_recv (hK : skK D tys s) (hP : va_P D vwCl ws H) (isC : List Nat) (hC : isC.map (fun i => ws[i]?) = wc.map some) (he : wc[q0]? = some (b, .inr (ci, fs))) (hc : vwCl[ci]? = some (C, T, N)) : ∃ cell : Cell, H[b]? = some cell ∧ cell.vm.isStatics = false ∧ s.vm.findClass C = some cell.cls := by
  have hPc : va_P D vwCl wc H := hP.sub isC (by
    have h9 : isC.filterMap (fun i => ws[i]?) = (isC.map (fun i => ws[i]?)).filterMap id := by rw [List.filterMap_map]; rfl
    rw [h9, hC]
    simp [List.filterMap_map])
  exact va_recv hK.1 hPc hc he
theorem sk_Vi {post : Int32 → va_W → Prop} (S : CallFix p m c cc nL s args wsL_law own) (hls : ls.size = nL) (hM : skM l y bytes maxL ret fr lo mc ms D tys (.ref b :: As) wc (skI D tys post))
    (h1 : Cond.methodLink own index y ∈ wsL_law) (h2 : Cond.instanceMethod y ∈ wsL_law) (h3 : Cond.selects C y y ∈ wsL_law) (h4 : Cond.initialized y.cls ∈ wsL_law) (h5 : Cond.code y bytes maxL ret ∈ wsL_law) (hd : skD y n) (hrm : skR R fr lo mc ms maxL cells slots)
    (hK : skK D tys s) (hP : va_P D vwCl ws H) (hD : va_D A ws) (hS : va_S A H0 H locs) (hA : ∀ q, H0.size ≤ q → A q) (isC isR : List Nat) (hC : isC.map (fun i => ws[i]?) = wc.map some) (hR : isR.map (fun i => ws[i]?) = wr.map some) (hnC : va_nd isC = true) (hn : va_nd isR = true) (hdis : ∀ i ∈ isR, i ∉ isC) (he : wc[q0]? = some (b, .inr (ci, fs))) (hc : vwCl[ci]? = some (C, T, N))
    (hlen : As.length = n) (hst : st0 = As.reverse ++ .ref b :: rest) (hcat : (rest.map fun v => v.category).sum ≤ 8) (hdg : decode cc pc = .ok (.invokevirtual index, 3))
    (kk : ∀ (r : Int32) (u : va_W) (H1 : Heap) (locs1 : List Loc), post r u → va_P D vwCl (wr ++ u) H1 → va_D A (wr ++ u) → va_S A H0 H1 locs1 → W p l e R s m args below meth c H1 locs1 (cells + mc) (slots + ms) Q (F0 m (pc + 3) ls (.int r :: rest))) : W p l e R s m args below meth c H locs cells slots Q (F0 m pc ls st0) := by
  have hts := S.2.2.2.2
  have hFc := va_free (wc := wc) hD hS hA isC hC
  have hpre := sk_preV hK hP hD isC hC hnC (.ref b :: As)
  refine va_calli (va_runV (As := As) (rest := rest) S (hM H.size) ⟨callB_of n hts (sk_good h5) rfl rfl rfl (hts _ h4) (hts _ h1) hd hrm.1, hts _ h2, hts _ h3⟩ ⟨hpre.1, sk_recv hK hP isC hC he hc, hpre.2⟩ rfl hlen hls hst (lv_room hcat) hdg hrm.2) hS (fun q _ h => hFc q h) hFc (fun r u t H1 locs1 ht hvm hw hB hz1 hk1 hS1 => ?_)
  obtain ⟨hP1, -, hD1⟩ := hB
  rw [ht] at hP1
  obtain ⟨hP', hD'⟩ := va_join (wr := wr) (w1 := u) hP hD isC isR hC hR hn hdis hk1 hFc hP1 hD1
  exact kk r u H1 locs1 hw hP' hD' hS1
theorem sk_Vl {post : Int64 → va_W → Prop} (S : CallFix p m c cc nL s args wsL_law own) (hls : ls.size = nL) (hM : skM l y bytes maxL ret fr lo mc ms D tys (.ref b :: As) wc (skL D tys post))
    (h1 : Cond.methodLink own index y ∈ wsL_law) (h2 : Cond.instanceMethod y ∈ wsL_law) (h3 : Cond.selects C y y ∈ wsL_law) (h4 : Cond.initialized y.cls ∈ wsL_law) (h5 : Cond.code y bytes maxL ret ∈ wsL_law) (hd : skD y n) (hrm : skR R fr lo mc ms maxL cells slots)
    (hK : skK D tys s) (hP : va_P D vwCl ws H) (hD : va_D A ws) (hS : va_S A H0 H locs) (hA : ∀ q, H0.size ≤ q → A q) (isC isR : List Nat) (hC : isC.map (fun i => ws[i]?) = wc.map some) (hR : isR.map (fun i => ws[i]?) = wr.map some) (hnC : va_nd isC = true) (hn : va_nd isR = true) (hdis : ∀ i ∈ isR, i ∉ isC) (he : wc[q0]? = some (b, .inr (ci, fs))) (hc : vwCl[ci]? = some (C, T, N))
    (hlen : As.length = n) (hst : st0 = As.reverse ++ .ref b :: rest) (hcat : (rest.map fun v => v.category).sum ≤ 8) (hdg : decode cc pc = .ok (.invokevirtual index, 3))
    (kk : ∀ (r : Int64) (u : va_W) (H1 : Heap) (locs1 : List Loc), post r u → va_P D vwCl (wr ++ u) H1 → va_D A (wr ++ u) → va_S A H0 H1 locs1 → W p l e R s m args below meth c H1 locs1 (cells + mc) (slots + ms) Q (F0 m (pc + 3) ls (.long r :: rest))) : W p l e R s m args below meth c H locs cells slots Q (F0 m pc ls st0) := by
  have hts := S.2.2.2.2
  have hFc := va_free (wc := wc) hD hS hA isC hC
  have hpre := sk_preV hK hP hD isC hC hnC (.ref b :: As)
  refine va_calll (va_runV (As := As) (rest := rest) S (hM H.size) ⟨callB_of n hts (sk_good h5) rfl rfl rfl (hts _ h4) (hts _ h1) hd hrm.1, hts _ h2, hts _ h3⟩ ⟨hpre.1, sk_recv hK hP isC hC he hc, hpre.2⟩ rfl hlen hls hst (lv_room hcat) hdg hrm.2) hS (fun q _ h => hFc q h) hFc (fun r u t H1 locs1 ht hvm hw hB hz1 hk1 hS1 => ?_)
  obtain ⟨hP1, -, hD1⟩ := hB
  rw [ht] at hP1
  obtain ⟨hP', hD'⟩ := va_join (wr := wr) (w1 := u) hP hD isC isR hC hR hn hdis hk1 hFc hP1 hD1
  exact kk r u H1 locs1 hw hP' hD' hS1
theorem sk_Vv {post : va_W → Prop} (S : CallFix p m c cc nL s args wsL_law own) (hls : ls.size = nL) (hM : skM l y bytes maxL ret fr lo mc ms D tys (.ref b :: As) wc (skV D tys post))
    (h1 : Cond.methodLink own index y ∈ wsL_law) (h2 : Cond.instanceMethod y ∈ wsL_law) (h3 : Cond.selects C y y ∈ wsL_law) (h4 : Cond.initialized y.cls ∈ wsL_law) (h5 : Cond.code y bytes maxL ret ∈ wsL_law) (hd : skD y n) (hrm : skR R fr lo mc ms maxL cells slots)
    (hK : skK D tys s) (hP : va_P D vwCl ws H) (hD : va_D A ws) (hS : va_S A H0 H locs) (hA : ∀ q, H0.size ≤ q → A q) (isC isR : List Nat) (hC : isC.map (fun i => ws[i]?) = wc.map some) (hR : isR.map (fun i => ws[i]?) = wr.map some) (hnC : va_nd isC = true) (hn : va_nd isR = true) (hdis : ∀ i ∈ isR, i ∉ isC) (he : wc[q0]? = some (b, .inr (ci, fs))) (hc : vwCl[ci]? = some (C, T, N))
    (hlen : As.length = n) (hst : st0 = As.reverse ++ .ref b :: rest) (hcat : (rest.map fun v => v.category).sum ≤ 8) (hdg : decode cc pc = .ok (.invokevirtual index, 3))
    (kk : ∀ (u : va_W) (H1 : Heap) (locs1 : List Loc), post u → va_P D vwCl (wr ++ u) H1 → va_D A (wr ++ u) → va_S A H0 H1 locs1 → W p l e R s m args below meth c H1 locs1 (cells + mc) (slots + ms) Q (F0 m (pc + 3) ls rest)) : W p l e R s m args below meth c H locs cells slots Q (F0 m pc ls st0) := by
  have hts := S.2.2.2.2
  have hFc := va_free (wc := wc) hD hS hA isC hC
  have hpre := sk_preV hK hP hD isC hC hnC (.ref b :: As)
  refine va_callv (va_runV (As := As) (rest := rest) S (hM H.size) ⟨callB_of n hts (sk_good h5) rfl rfl rfl (hts _ h4) (hts _ h1) hd hrm.1, hts _ h2, hts _ h3⟩ ⟨hpre.1, sk_recv hK hP isC hC he hc, hpre.2⟩ rfl hlen hls hst (lv_room hcat) hdg hrm.2) hS (fun q _ h => hFc q h) hFc (fun u t H1 locs1 ht hvm hw hB hz1 hk1 hS1 => ?_)
  obtain ⟨hP1, -, hD1⟩ := hB
  rw [ht] at hP1
  obtain ⟨hP', hD'⟩ := va_join (wr := wr) (w1 := u) hP hD isC isR hC hR hn hdis hk1 hFc hP1 hD1
  exact kk u H1 locs1 hw hP' hD' hS1
theorem sk_Iv {post : va_W → Prop} (S : CallFix p m c cc nL s args wsL_law own) (hls : ls.size = nL) (hM : skM l y bytes maxL none fr lo mc ms D tys (.ref b :: As) wc (skV D tys post))
    (h1 : Cond.methodLink own index y ∈ wsL_law) (h2 : Cond.instanceMethod y ∈ wsL_law) (h4 : Cond.initialized y.cls ∈ wsL_law) (h5 : Cond.code y bytes maxL none ∈ wsL_law) (hy : y.name = "<init>") (hd : skD y n) (hrm : skR R fr lo mc ms maxL cells slots)
    (hK : skK D tys s) (hP : va_P D vwCl ws H) (hD : va_D A ws) (hS : va_S A H0 H locs) (hA : ∀ q, H0.size ≤ q → A q) (isC isR : List Nat) (hC : isC.map (fun i => ws[i]?) = wc.map some) (hR : isR.map (fun i => ws[i]?) = wr.map some) (hnC : va_nd isC = true) (hn : va_nd isR = true) (hdis : ∀ i ∈ isR, i ∉ isC)
    (hlen : As.length = n) (hst : st0 = As.reverse ++ .ref b :: rest) (hcat : (rest.map fun v => v.category).sum ≤ 8) (hdg : decode cc pc = .ok (.invokespecial index, 3))
    (kk : ∀ (u : va_W) (H1 : Heap) (locs1 : List Loc), post u → va_P D vwCl (wr ++ u) H1 → va_D A (wr ++ u) → va_S A H0 H1 locs1 → W p l e R s m args below meth c H1 locs1 (cells + mc) (slots + ms) Q (F0 m (pc + 3) ls rest)) : W p l e R s m args below meth c H locs cells slots Q (F0 m pc ls st0) := by
  have hts := S.2.2.2.2
  have hFc := va_free (wc := wc) hD hS hA isC hC
  have hpre := sk_preV hK hP hD isC hC hnC (.ref b :: As)
  refine va_callv (va_runI (As := As) (rest := rest) S (hM H.size) ⟨callB_of n hts (sk_good h5) rfl rfl rfl (hts _ h4) (hts _ h1) hd hrm.1, hy, hts _ h2⟩ hpre rfl hlen hls hst (lv_room hcat) hdg hrm.2) hS (fun q _ h => hFc q h) hFc (fun u t H1 locs1 ht hvm hw hB hz1 hk1 hS1 => ?_)
  obtain ⟨hP1, -, hD1⟩ := hB
  rw [ht] at hP1
  obtain ⟨hP', hD'⟩ := va_join (wr := wr) (w1 := u) hP hD isC isR hC hR hn hdis hk1 hFc hP1 hD1
  exact kk u H1 locs1 hw hP' hD' hS1
theorem sk_INv {post : va_W → Prop} (S : CallFix p m c cc nL s args wsL_law own) (hls : ls.size = nL) (hM : skM l y bytes maxL none fr lo mc ms D tys (.ref b :: As) wc (skV D tys post))
    (h1 : va_Nw (.methodLinkNest own index y skHost) s) (h2 : Cond.instanceMethod y ∈ wsL_law) (h4 : Cond.initialized y.cls ∈ wsL_law) (h5 : Cond.code y bytes maxL none ∈ wsL_law) (hy : y.name = "<init>") (hd : skD y n) (hrm : skR R fr lo mc ms maxL cells slots)
    (hK : skK D tys s) (hP : va_P D vwCl ws H) (hD : va_D A ws) (hS : va_S A H0 H locs) (hA : ∀ q, H0.size ≤ q → A q) (isC isR : List Nat) (hC : isC.map (fun i => ws[i]?) = wc.map some) (hR : isR.map (fun i => ws[i]?) = wr.map some) (hnC : va_nd isC = true) (hn : va_nd isR = true) (hdis : ∀ i ∈ isR, i ∉ isC)
    (hlen : As.length = n) (hst : st0 = As.reverse ++ .ref b :: rest) (hcat : (rest.map fun v => v.category).sum ≤ 8) (hdg : decode cc pc = .ok (.invokespecial index, 3))
    (kk : ∀ (u : va_W) (H1 : Heap) (locs1 : List Loc), post u → va_P D vwCl (wr ++ u) H1 → va_D A (wr ++ u) → va_S A H0 H1 locs1 → W p l e R s m args below meth c H1 locs1 (cells + mc) (slots + ms) Q (F0 m (pc + 3) ls rest)) : W p l e R s m args below meth c H locs cells slots Q (F0 m pc ls st0) := by
  have hts := S.2.2.2.2
  have hFc := va_free (wc := wc) hD hS hA isC hC
  have hpre := sk_preV hK hP hD isC hC hnC (.ref b :: As)
  refine va_callv (va_runIN (As := As) (rest := rest) S (hM H.size) ⟨va_cnB n hts (sk_good h5) rfl rfl rfl h1 (hts _ h4) hd hrm.1, hy, hts _ h2⟩ hpre rfl hlen hls hst (lv_room hcat) hdg hrm.2) hS (fun q _ h => hFc q h) hFc (fun u t H1 locs1 ht hvm hw hB hz1 hk1 hS1 => ?_)
  obtain ⟨hP1, -, hD1⟩ := hB
  rw [ht] at hP1
  obtain ⟨hP', hD'⟩ := va_join (wr := wr) (w1 := u) hP hD isC isR hC hR hn hdis hk1 hFc hP1 hD1
  exact kk u H1 locs1 hw hP' hD' hS1
theorem sk_Si {post : Int32 → va_W → Prop} (S : CallFix p m c cc nL s args wsL_law own) (hls : ls.size = nL) (hM : skM l y bytes maxL ret fr lo mc ms D tys As wc (skI D tys post))
    (h1 : Cond.methodLink own index y ∈ wsL_law) (h2 : Cond.static y ∈ wsL_law) (h4 : Cond.initialized y.cls ∈ wsL_law) (h5 : Cond.code y bytes maxL ret ∈ wsL_law) (hd : skD y n) (hrm : skR R fr lo mc ms maxL cells slots)
    (hK : skK D tys s) (hP : va_P D vwCl ws H) (hD : va_D A ws) (hS : va_S A H0 H locs) (hA : ∀ q, H0.size ≤ q → A q) (isC isR : List Nat) (hC : isC.map (fun i => ws[i]?) = wc.map some) (hR : isR.map (fun i => ws[i]?) = wr.map some) (hnC : va_nd isC = true) (hn : va_nd isR = true) (hdis : ∀ i ∈ isR, i ∉ isC)
    (hlen : As.length = n) (hst : st0 = As.reverse ++ rest) (hcat : (rest.map fun v => v.category).sum ≤ 8) (hdg : decode cc pc = .ok (.invokestatic index, 3))
    (kk : ∀ (r : Int32) (u : va_W) (H1 : Heap) (locs1 : List Loc), post r u → va_P D vwCl (wr ++ u) H1 → va_D A (wr ++ u) → va_S A H0 H1 locs1 → W p l e R s m args below meth c H1 locs1 (cells + mc) (slots + ms) Q (F0 m (pc + 3) ls (.int r :: rest))) : W p l e R s m args below meth c H locs cells slots Q (F0 m pc ls st0) := by
  have hts := S.2.2.2.2
  have hFc := va_free (wc := wc) hD hS hA isC hC
  have hpre := sk_preV hK hP hD isC hC hnC As
  refine va_calli (va_runS (As := As) (rest := rest) S (hM H.size) ⟨callB_of n hts (sk_good h5) rfl rfl rfl (hts _ h4) (hts _ h1) hd hrm.1, hts _ h2⟩ hpre rfl hlen hls hst (lv_room hcat) hdg hrm.2) hS (fun q _ h => hFc q h) hFc (fun r u t H1 locs1 ht hvm hw hB hz1 hk1 hS1 => ?_)
  obtain ⟨hP1, -, hD1⟩ := hB
  rw [ht] at hP1
  obtain ⟨hP', hD'⟩ := va_join (wr := wr) (w1 := u) hP hD isC isR hC hR hn hdis hk1 hFc hP1 hD1
  exact kk r u H1 locs1 hw hP' hD' hS1
theorem sk_Sv {post : va_W → Prop} (S : CallFix p m c cc nL s args wsL_law own) (hls : ls.size = nL) (hM : skM l y bytes maxL ret fr lo mc ms D tys As wc (skV D tys post))
    (h1 : Cond.methodLink own index y ∈ wsL_law) (h2 : Cond.static y ∈ wsL_law) (h4 : Cond.initialized y.cls ∈ wsL_law) (h5 : Cond.code y bytes maxL ret ∈ wsL_law) (hd : skD y n) (hrm : skR R fr lo mc ms maxL cells slots)
    (hK : skK D tys s) (hP : va_P D vwCl ws H) (hD : va_D A ws) (hS : va_S A H0 H locs) (hA : ∀ q, H0.size ≤ q → A q) (isC isR : List Nat) (hC : isC.map (fun i => ws[i]?) = wc.map some) (hR : isR.map (fun i => ws[i]?) = wr.map some) (hnC : va_nd isC = true) (hn : va_nd isR = true) (hdis : ∀ i ∈ isR, i ∉ isC)
    (hlen : As.length = n) (hst : st0 = As.reverse ++ rest) (hcat : (rest.map fun v => v.category).sum ≤ 8) (hdg : decode cc pc = .ok (.invokestatic index, 3))
    (kk : ∀ (u : va_W) (H1 : Heap) (locs1 : List Loc), post u → va_P D vwCl (wr ++ u) H1 → va_D A (wr ++ u) → va_S A H0 H1 locs1 → W p l e R s m args below meth c H1 locs1 (cells + mc) (slots + ms) Q (F0 m (pc + 3) ls rest)) : W p l e R s m args below meth c H locs cells slots Q (F0 m pc ls st0) := by
  have hts := S.2.2.2.2
  have hFc := va_free (wc := wc) hD hS hA isC hC
  have hpre := sk_preV hK hP hD isC hC hnC As
  refine va_callv (va_runS (As := As) (rest := rest) S (hM H.size) ⟨callB_of n hts (sk_good h5) rfl rfl rfl (hts _ h4) (hts _ h1) hd hrm.1, hts _ h2⟩ hpre rfl hlen hls hst (lv_room hcat) hdg hrm.2) hS (fun q _ h => hFc q h) hFc (fun u t H1 locs1 ht hvm hw hB hz1 hk1 hS1 => ?_)
  obtain ⟨hP1, -, hD1⟩ := hB
  rw [ht] at hP1
  obtain ⟨hP', hD'⟩ := va_join (wr := wr) (w1 := u) hP hD isC isR hC hR hn hdis hk1 hFc hP1 hD1
  exact kk u H1 locs1 hw hP' hD' hS1
end SkCalls
end SkRows
/-! the reference's object has 92 fields: a function of their numbers -/
def mF (F : Nat → Value) : List Value := (List.range 92).map F
theorem mF_at (F : Nat → Value) {k : Nat} (h : k < 92) : (mF F)[k]? = some (F k) := by
  simp [mF, h]
theorem mF_get {F : Nat → Value} {k : Nat} {v : Value} (h : k < 92) (hv : F k = v) : (mF F)[k]? = some v := by
  rw [mF_at F h, hv]
theorem mF_length (F : Nat → Value) : (mF F).length = 92 := by simp [mF]
theorem mF_len {F : Nat → Value} {k : Nat} (h : k < 92) : k < (mF F).length := by rw [mF_length]; exact h
theorem mF_set (F : Nat → Value) {k : Nat} (h : k < 92) (v : Value) : (mF F).set k v = mF (updV F k v) := by
  refine List.ext_getElem? (fun i => ?_)
  by_cases hi : i < 92
  · rw [mF_at _ hi, List.getElem?_set]
    by_cases hk : k = i
    · subst hk
      rw [if_pos rfl, if_pos (mF_len h)]
      simp [updV]
    · rw [if_neg hk, mF_at _ hi]
      simp [updV, Ne.symm hk]
  · rw [List.getElem?_eq_none (by rw [List.length_set, mF_length]; omega), List.getElem?_eq_none (by rw [mF_length]; omega)]
theorem mF_w {ws ws' : va_W} {q0 a : Nat} {F : Nat → Value} {k : Nat} {v : Value} (h : k < 92) (hw : ws.set q0 (a, .inr (12, mF (updV F k v))) = ws') : ws.set q0 (a, .inr (12, (mF F).set k v)) = ws' := by
  rw [mF_set F h]; exact hw
def mD : Nat → Value := fun k => defaultValue (tyX12 k)
theorem mD_ok : ∀ j, j < 92 → defaultValue (tyX12 j) = vp_V (mF mD) j := fun j hj => by
  unfold vp_V
  rw [List.getD_eq_getElem?_getD, mF_at _ hj]
  rfl
theorem sk_out {x : Int32} {n : Nat} (h : ∀ k : Nat, k ≤ n → ¬ x = Int32.ofNat k) : x.toInt < 0 ∨ (n : Int) < x.toInt := by
  by_cases h0 : x.toInt < 0
  · exact Or.inl h0
  · refine Or.inr (Int.not_le.mp (fun h1 => h x.toInt.toNat (by omega) ?_))
    refine Int32.toInt_inj.mp ?_
    have h2 : x.toInt < 2 ^ 31 := Int32.toInt_lt x
    have h3 : (Int32.ofNat x.toInt.toNat).toInt = (x.toInt.toNat : Int) := nI_toInt (by omega)
    rw [h3]
    omega
end
section
theorem dX10_init_0 : decode cX10_init 0 = .ok (.aload_n 0, 1) := by decide +kernel
theorem dX10_init_1 : decode cX10_init 1 = .ok (.invokespecial 1, 3) := by decide +kernel
theorem dX10_init_4 : decode cX10_init 4 = .ok (.aload_n 0, 1) := by decide +kernel
theorem dX10_init_5 : decode cX10_init 5 = .ok (.iconst 0, 1) := by decide +kernel
theorem dX10_init_6 : decode cX10_init 6 = .ok (.putfield 7, 3) := by decide +kernel
theorem dX10_init_9 : decode cX10_init 9 = .ok (.aload_n 0, 1) := by decide +kernel
theorem dX10_init_10 : decode cX10_init 10 = .ok (.iload_n 1, 1) := by decide +kernel
theorem dX10_init_11 : decode cX10_init 11 = .ok (.iconst 0, 1) := by decide +kernel
theorem dX10_init_12 : decode cX10_init 12 = .ok (.invokestatic 13, 3) := by decide +kernel
theorem dX10_init_15 : decode cX10_init 15 = .ok (.newarray .int, 2) := by decide +kernel
theorem dX10_init_17 : decode cX10_init 17 = .ok (.putfield 19, 3) := by decide +kernel
theorem dX10_init_20 : decode cX10_init 20 = .ok (.return_, 1) := by decide +kernel
theorem w_1_35 : (Cond.methodLink RX10 1 objectInit) ∈ wsL_law := sk_mem (ck_1 _ (List.mem_of_getElem? (i := 35) rfl)) rfl
theorem w_1_28 : (Cond.instanceMethod objectInit) ∈ wsL_law := sk_mem (ck_1 _ (List.mem_of_getElem? (i := 28) rfl)) rfl
theorem w_1_29 : (Cond.code objectInit ⟨#[0xb1]⟩ 1 none) ∈ wsL_law := sk_mem (ck_1 _ (List.mem_of_getElem? (i := 29) rfl)) rfl
theorem w_1_41 : (Cond.fieldLink RX10 7 "SameKeeper$Tape" "length" "I") ∈ wsL_law := sk_mem (ck_1 _ (List.mem_of_getElem? (i := 41) rfl)) rfl
theorem w_1_36 : (Cond.methodLink RX10 13 Lib.Math.max.name) ∈ wsL_law := sk_mem (ck_1 _ (List.mem_of_getElem? (i := 36) rfl)) rfl
theorem w_1_37 : (Cond.static Lib.Math.max.name) ∈ wsL_law := sk_mem (ck_1 _ (List.mem_of_getElem? (i := 37) rfl)) rfl
theorem w_1_3 : (Cond.initialized "java/lang/Math") ∈ wsL_law := sk_mem (ck_1 _ (List.mem_of_getElem? (i := 3) rfl)) rfl
theorem w_1_38 : (Cond.code Lib.Math.max.name Lib.Math.max.code 2 (some .int)) ∈ wsL_law := sk_mem (ck_1 _ (List.mem_of_getElem? (i := 38) rfl)) rfl
theorem w_1_49 : (Cond.arrayClass .int) ∈ wsL_law := sk_mem (ck_1 _ (List.mem_of_getElem? (i := 49) rfl)) rfl
theorem w_1_39 : (Cond.fieldLink RX10 19 "SameKeeper$Tape" "bytes" "[I") ∈ wsL_law := sk_mem (ck_1 _ (List.mem_of_getElem? (i := 39) rfl)) rfl
theorem w_1_34 : (Cond.code yX10_init cX10_init 2 none) ∈ wsL_law := sk_mem (ck_1 _ (List.mem_of_getElem? (i := 34) rfl)) rfl
set_option maxHeartbeats 4000000 in
set_option maxRecDepth 100000 in
theorem c_Tape_init_1600 (l : Launch) (D : va_G) (cI cJ cC cZ cS : ClassId) (h0 : Nat)  : skM l yX10_init cX10_init 2 none 1 21 1 1600 D (skT cI cJ cC cZ cS) [.ref h0, .int 1600] [(h0, .inr (10, [.null, .int 0]))] (skV D (skT cI cJ cC cZ cS) (fun (u : va_W) => ∃ (k1 : Nat), u = [(h0, .inr (10, [.ref k1, .int 0])), (k1, .inl (cI, 1600, .inl (fun _ => 0)))])) := by
  refine skM_of (by decide) (Nat.le_of_ble_eq_true rfl) ?_
  intro p e s m below meth c A ls E hP hD hl
  obtain ⟨hx, hb, hr, hml, hlocks, hin, hown, hts, hK, hA⟩ := E
  have hown : s.vm.findClass RX10 = some m.cls := hown
  have hin : meth.name = "<init>" := hin
  have hS : va_S A s.heap s.heap [] := va_S.rf
  have hl : lv_has ls 2 [(0, .ref h0), (1, .int 1600)] := hl
  refine lv_aload_n hx hb dX10_init_0 rfl (lv_at hl 0 rfl) ?_
  refine W.objInit hx hb hown (hts _ w_1_35) (hts _ w_1_28) (hts _ w_1_29) rfl (by rw [hml]; exact hl.1) rfl dX10_init_1 (Nat.le_of_ble_eq_true rfl) (Nat.le_of_ble_eq_true rfl) ?_
  refine W.eq (g2 := F0 m 4 ls []) rfl ?_
  refine lv_aload_n hx hb dX10_init_4 rfl (lv_at hl 0 rfl) ?_
  refine lv_iconst (v := 0) hx hb dX10_init_5 (by decide) ?_
  refine sk_put (ws' := [(h0, .inr (10, [.null, .int 0]))]) (C := RX10) (T := TX10) (N := 2) (v := .int 0) hx hb hts inlX10 tyX10 tyX10_ok nmX10 hown hK hP hD hS 0 rfl rfl 1 (by decide) w_1_41 rfl rfl rfl (Nat.le_of_ble_eq_true rfl) rfl dX10_init_6 (fun H locs hP hD hS => ?_)
  refine lv_aload_n hx hb dX10_init_9 rfl (lv_at hl 0 rfl) ?_
  refine lv_iload_n hx hb dX10_init_10 rfl (lv_at hl 1 rfl) ?_
  refine lv_iconst (v := 0) hx hb dX10_init_11 (by decide) ?_
  refine va_mmax hx hb (by rw [hml]; exact hl.1.symm) hown (hts _ w_1_36) (hts _ w_1_37) (hts _ w_1_3) (hts _ w_1_38) (Nat.le_of_ble_eq_true rfl) (Nat.le_of_ble_eq_true rfl) (Nat.le_of_ble_eq_true rfl) (Nat.le_of_ble_eq_true rfl) dX10_init_12 ?_
  refine sk_top 1600 (by decide) ?_
  refine sk_newa (atype := .int) (ty := .int) (a0 := (1600, .inl (fun _ => 0))) (cA := cI) (k1 := 1) (n1 := 1600) hx hb hts w_1_49 rfl (fun _ _ h => h) 0 rfl hK hP hD hS hA (fun _ => vp_cell_i _ _ _) (by decide) (by decide) (Nat.le_of_ble_eq_true rfl) (Nat.le_of_ble_eq_true rfl) (Nat.le_of_ble_eq_true rfl) (Nat.le_of_ble_eq_true rfl) (Nat.le_of_ble_eq_true rfl) dX10_init_15 (fun q_1 H hP hD hS => ?_)
  have hP : va_P D vwCl [(h0, .inr (10, [.null, .int 0])), (q_1, .inl (cI, 1600, .inl (fun _ => 0)))] H := hP
  have hD : va_D A [(h0, .inr (10, [.null, .int 0])), (q_1, .inl (cI, 1600, .inl (fun _ => 0)))] := hD
  refine sk_putF (ws' := [(h0, .inr (10, [.ref q_1, .int 0])), (q_1, .inl (cI, 1600, .inl (fun _ => 0)))]) (C := RX10) (T := TX10) (N := 2) (v := .ref q_1) hx hb hts inlX10 tyX10 tyX10_ok nmX10 hown hK hP hD hS 0 rfl rfl 0 (by decide) w_1_39 rfl hin rfl rfl rfl (Nat.le_of_ble_eq_true rfl) rfl dX10_init_17 (fun H locs hP hD hS => ?_)
  exact sk_vret hx hb hr hlocks hK hP hD hS (⟨q_1, rfl⟩) (Nat.le_of_ble_eq_true rfl) (Nat.le_of_ble_eq_true rfl) dX10_init_20
set_option maxHeartbeats 4000000 in
set_option maxRecDepth 100000 in
theorem c_Tape_init_31 (l : Launch) (D : va_G) (cI cJ cC cZ cS : ClassId) (h0 : Nat)  : skM l yX10_init cX10_init 2 none 1 21 1 31 D (skT cI cJ cC cZ cS) [.ref h0, .int 31] [(h0, .inr (10, [.null, .int 0]))] (skV D (skT cI cJ cC cZ cS) (fun (u : va_W) => ∃ (k1 : Nat), u = [(h0, .inr (10, [.ref k1, .int 0])), (k1, .inl (cI, 31, .inl (fun _ => 0)))])) := by
  refine skM_of (by decide) (Nat.le_of_ble_eq_true rfl) ?_
  intro p e s m below meth c A ls E hP hD hl
  obtain ⟨hx, hb, hr, hml, hlocks, hin, hown, hts, hK, hA⟩ := E
  have hown : s.vm.findClass RX10 = some m.cls := hown
  have hin : meth.name = "<init>" := hin
  have hS : va_S A s.heap s.heap [] := va_S.rf
  have hl : lv_has ls 2 [(0, .ref h0), (1, .int 31)] := hl
  refine lv_aload_n hx hb dX10_init_0 rfl (lv_at hl 0 rfl) ?_
  refine W.objInit hx hb hown (hts _ w_1_35) (hts _ w_1_28) (hts _ w_1_29) rfl (by rw [hml]; exact hl.1) rfl dX10_init_1 (Nat.le_of_ble_eq_true rfl) (Nat.le_of_ble_eq_true rfl) ?_
  refine W.eq (g2 := F0 m 4 ls []) rfl ?_
  refine lv_aload_n hx hb dX10_init_4 rfl (lv_at hl 0 rfl) ?_
  refine lv_iconst (v := 0) hx hb dX10_init_5 (by decide) ?_
  refine sk_put (ws' := [(h0, .inr (10, [.null, .int 0]))]) (C := RX10) (T := TX10) (N := 2) (v := .int 0) hx hb hts inlX10 tyX10 tyX10_ok nmX10 hown hK hP hD hS 0 rfl rfl 1 (by decide) w_1_41 rfl rfl rfl (Nat.le_of_ble_eq_true rfl) rfl dX10_init_6 (fun H locs hP hD hS => ?_)
  refine lv_aload_n hx hb dX10_init_9 rfl (lv_at hl 0 rfl) ?_
  refine lv_iload_n hx hb dX10_init_10 rfl (lv_at hl 1 rfl) ?_
  refine lv_iconst (v := 0) hx hb dX10_init_11 (by decide) ?_
  refine va_mmax hx hb (by rw [hml]; exact hl.1.symm) hown (hts _ w_1_36) (hts _ w_1_37) (hts _ w_1_3) (hts _ w_1_38) (Nat.le_of_ble_eq_true rfl) (Nat.le_of_ble_eq_true rfl) (Nat.le_of_ble_eq_true rfl) (Nat.le_of_ble_eq_true rfl) dX10_init_12 ?_
  refine sk_top 31 (by decide) ?_
  refine sk_newa (atype := .int) (ty := .int) (a0 := (31, .inl (fun _ => 0))) (cA := cI) (k1 := 1) (n1 := 31) hx hb hts w_1_49 rfl (fun _ _ h => h) 0 rfl hK hP hD hS hA (fun _ => vp_cell_i _ _ _) (by decide) (by decide) (Nat.le_of_ble_eq_true rfl) (Nat.le_of_ble_eq_true rfl) (Nat.le_of_ble_eq_true rfl) (Nat.le_of_ble_eq_true rfl) (Nat.le_of_ble_eq_true rfl) dX10_init_15 (fun q_1 H hP hD hS => ?_)
  have hP : va_P D vwCl [(h0, .inr (10, [.null, .int 0])), (q_1, .inl (cI, 31, .inl (fun _ => 0)))] H := hP
  have hD : va_D A [(h0, .inr (10, [.null, .int 0])), (q_1, .inl (cI, 31, .inl (fun _ => 0)))] := hD
  refine sk_putF (ws' := [(h0, .inr (10, [.ref q_1, .int 0])), (q_1, .inl (cI, 31, .inl (fun _ => 0)))]) (C := RX10) (T := TX10) (N := 2) (v := .ref q_1) hx hb hts inlX10 tyX10 tyX10_ok nmX10 hown hK hP hD hS 0 rfl rfl 0 (by decide) w_1_39 rfl hin rfl rfl rfl (Nat.le_of_ble_eq_true rfl) rfl dX10_init_17 (fun H locs hP hD hS => ?_)
  exact sk_vret hx hb hr hlocks hK hP hD hS (⟨q_1, rfl⟩) (Nat.le_of_ble_eq_true rfl) (Nat.le_of_ble_eq_true rfl) dX10_init_20
theorem dX7_init_0 : decode cX7_init 0 = .ok (.aload_n 0, 1) := by decide +kernel
theorem dX7_init_1 : decode cX7_init 1 = .ok (.invokespecial 3, 3) := by decide +kernel
theorem dX7_init_4 : decode cX7_init 4 = .ok (.aload_n 0, 1) := by decide +kernel
theorem dX7_init_5 : decode cX7_init 5 = .ok (.bipush 9, 2) := by decide +kernel
theorem dX7_init_7 : decode cX7_init 7 = .ok (.newarray .int, 2) := by decide +kernel
theorem dX7_init_9 : decode cX7_init 9 = .ok (.putfield 9, 3) := by decide +kernel
theorem dX7_init_12 : decode cX7_init 12 = .ok (.aload_n 0, 1) := by decide +kernel
theorem dX7_init_13 : decode cX7_init 13 = .ok (.bipush 9, 2) := by decide +kernel
theorem dX7_init_15 : decode cX7_init 15 = .ok (.newarray .int, 2) := by decide +kernel
theorem dX7_init_17 : decode cX7_init 17 = .ok (.putfield 15, 3) := by decide +kernel
theorem dX7_init_20 : decode cX7_init 20 = .ok (.aload_n 0, 1) := by decide +kernel
theorem dX7_init_21 : decode cX7_init 21 = .ok (.iconst 0, 1) := by decide +kernel
theorem dX7_init_22 : decode cX7_init 22 = .ok (.putfield 18, 3) := by decide +kernel
theorem dX7_init_25 : decode cX7_init 25 = .ok (.aload_n 0, 1) := by decide +kernel
theorem dX7_init_26 : decode cX7_init 26 = .ok (.iconst 0, 1) := by decide +kernel
theorem dX7_init_27 : decode cX7_init 27 = .ok (.putfield 22, 3) := by decide +kernel
theorem dX7_init_30 : decode cX7_init 30 = .ok (.aload_n 0, 1) := by decide +kernel
theorem dX7_init_31 : decode cX7_init 31 = .ok (.iconst 0, 1) := by decide +kernel
theorem dX7_init_32 : decode cX7_init 32 = .ok (.putfield 25, 3) := by decide +kernel
theorem dX7_init_35 : decode cX7_init 35 = .ok (.aload_n 0, 1) := by decide +kernel
theorem dX7_init_36 : decode cX7_init 36 = .ok (.iconst 0, 1) := by decide +kernel
theorem dX7_init_37 : decode cX7_init 37 = .ok (.putfield 28, 3) := by decide +kernel
theorem dX7_init_40 : decode cX7_init 40 = .ok (.aload_n 0, 1) := by decide +kernel
theorem dX7_init_41 : decode cX7_init 41 = .ok (.iconst 0, 1) := by decide +kernel
theorem dX7_init_42 : decode cX7_init 42 = .ok (.putfield 31, 3) := by decide +kernel
theorem dX7_init_45 : decode cX7_init 45 = .ok (.return_, 1) := by decide +kernel
theorem w_1_229 : (Cond.methodLink RX7 3 objectInit) ∈ wsL_law := sk_mem (ck_1 _ (List.mem_of_getElem? (i := 229) rfl)) rfl
theorem w_1_230 : (Cond.fieldLink RX7 9 "SameKeeper$State" "barge" "[I") ∈ wsL_law := sk_mem (ck_1 _ (List.mem_of_getElem? (i := 230) rfl)) rfl
theorem w_1_234 : (Cond.fieldLink RX7 15 "SameKeeper$State" "wet" "[I") ∈ wsL_law := sk_mem (ck_1 _ (List.mem_of_getElem? (i := 234) rfl)) rfl
theorem w_1_238 : (Cond.fieldLink RX7 18 "SameKeeper$State" "days" "I") ∈ wsL_law := sk_mem (ck_1 _ (List.mem_of_getElem? (i := 238) rfl)) rfl
theorem w_2_3 : (Cond.fieldLink RX7 22 "SameKeeper$State" "week" "I") ∈ wsL_law := sk_mem (ck_2 _ (List.mem_of_getElem? (i := 3) rfl)) rfl
theorem w_2_8 : (Cond.fieldLink RX7 25 "SameKeeper$State" "mood" "I") ∈ wsL_law := sk_mem (ck_2 _ (List.mem_of_getElem? (i := 8) rfl)) rfl
theorem w_2_11 : (Cond.fieldLink RX7 28 "SameKeeper$State" "mute" "I") ∈ wsL_law := sk_mem (ck_2 _ (List.mem_of_getElem? (i := 11) rfl)) rfl
theorem w_2_13 : (Cond.fieldLink RX7 31 "SameKeeper$State" "kept" "I") ∈ wsL_law := sk_mem (ck_2 _ (List.mem_of_getElem? (i := 13) rfl)) rfl
theorem w_1_228 : (Cond.code yX7_init cX7_init 1 none) ∈ wsL_law := sk_mem (ck_1 _ (List.mem_of_getElem? (i := 228) rfl)) rfl
set_option maxHeartbeats 4000000 in
set_option maxRecDepth 100000 in
theorem c_State_init (l : Launch) (D : va_G) (cI cJ cC cZ cS : ClassId) (h0 : Nat)  : skM l yX7_init cX7_init 1 none 1 20 2 18 D (skT cI cJ cC cZ cS) [.ref h0] [(h0, .inr (7, [.null, .null, .int 0, .int 0, .int 0, .int 0, .int 0]))] (skV D (skT cI cJ cC cZ cS) (fun (u : va_W) => ∃ (k1 : Nat), ∃ (k2 : Nat), u = [(h0, .inr (7, [.ref k1, .ref k2, .int 0, .int 0, .int 0, .int 0, .int 0]))])) := by
  refine skM_of (by decide) (Nat.le_of_ble_eq_true rfl) ?_
  intro p e s m below meth c A ls E hP hD hl
  obtain ⟨hx, hb, hr, hml, hlocks, hin, hown, hts, hK, hA⟩ := E
  have hown : s.vm.findClass RX7 = some m.cls := hown
  have hin : meth.name = "<init>" := hin
  have hS : va_S A s.heap s.heap [] := va_S.rf
  have hl : lv_has ls 1 [(0, .ref h0)] := hl
  refine lv_aload_n hx hb dX7_init_0 rfl (lv_at hl 0 rfl) ?_
  refine W.objInit hx hb hown (hts _ w_1_229) (hts _ w_1_28) (hts _ w_1_29) rfl (by rw [hml]; exact hl.1) rfl dX7_init_1 (Nat.le_of_ble_eq_true rfl) (Nat.le_of_ble_eq_true rfl) ?_
  refine W.eq (g2 := F0 m 4 ls []) rfl ?_
  refine lv_aload_n hx hb dX7_init_4 rfl (lv_at hl 0 rfl) ?_
  refine lv_bipush (v := 9) hx hb dX7_init_5 (by decide) ?_
  refine sk_newa (atype := .int) (ty := .int) (a0 := (9, .inl (fun _ => 0))) (cA := cI) (k1 := 1) (n1 := 9) hx hb hts w_1_49 rfl (fun _ _ h => h) 0 rfl hK hP hD hS hA (fun _ => vp_cell_i _ _ _) (by decide) (by decide) (Nat.le_of_ble_eq_true rfl) (Nat.le_of_ble_eq_true rfl) (Nat.le_of_ble_eq_true rfl) (Nat.le_of_ble_eq_true rfl) (Nat.le_of_ble_eq_true rfl) dX7_init_7 (fun q_1 H hP hD hS => ?_)
  have hP : va_P D vwCl [(h0, .inr (7, [.null, .null, .int 0, .int 0, .int 0, .int 0, .int 0])), (q_1, .inl (cI, 9, .inl (fun _ => 0)))] H := hP
  have hD : va_D A [(h0, .inr (7, [.null, .null, .int 0, .int 0, .int 0, .int 0, .int 0])), (q_1, .inl (cI, 9, .inl (fun _ => 0)))] := hD
  refine sk_putF (ws' := [(h0, .inr (7, [.ref q_1, .null, .int 0, .int 0, .int 0, .int 0, .int 0])), (q_1, .inl (cI, 9, .inl (fun _ => 0)))]) (C := RX7) (T := TX7) (N := 7) (v := .ref q_1) hx hb hts inlX7 tyX7 tyX7_ok nmX7 hown hK hP hD hS 0 rfl rfl 0 (by decide) w_1_230 rfl hin rfl rfl rfl (Nat.le_of_ble_eq_true rfl) rfl dX7_init_9 (fun H locs hP hD hS => ?_)
  refine lv_aload_n hx hb dX7_init_12 rfl (lv_at hl 0 rfl) ?_
  refine lv_bipush (v := 9) hx hb dX7_init_13 (by decide) ?_
  refine sk_newa (atype := .int) (ty := .int) (a0 := (9, .inl (fun _ => 0))) (cA := cI) (k1 := 2) (n1 := 18) hx hb hts w_1_49 rfl (fun _ _ h => h) 0 rfl hK hP hD hS hA (fun _ => vp_cell_i _ _ _) (by decide) (by decide) (Nat.le_of_ble_eq_true rfl) (Nat.le_of_ble_eq_true rfl) (Nat.le_of_ble_eq_true rfl) (Nat.le_of_ble_eq_true rfl) (Nat.le_of_ble_eq_true rfl) dX7_init_15 (fun q_2 H hP hD hS => ?_)
  have hP : va_P D vwCl [(h0, .inr (7, [.ref q_1, .null, .int 0, .int 0, .int 0, .int 0, .int 0])), (q_1, .inl (cI, 9, .inl (fun _ => 0))), (q_2, .inl (cI, 9, .inl (fun _ => 0)))] H := hP
  have hD : va_D A [(h0, .inr (7, [.ref q_1, .null, .int 0, .int 0, .int 0, .int 0, .int 0])), (q_1, .inl (cI, 9, .inl (fun _ => 0))), (q_2, .inl (cI, 9, .inl (fun _ => 0)))] := hD
  refine sk_putF (ws' := [(h0, .inr (7, [.ref q_1, .ref q_2, .int 0, .int 0, .int 0, .int 0, .int 0])), (q_1, .inl (cI, 9, .inl (fun _ => 0))), (q_2, .inl (cI, 9, .inl (fun _ => 0)))]) (C := RX7) (T := TX7) (N := 7) (v := .ref q_2) hx hb hts inlX7 tyX7 tyX7_ok nmX7 hown hK hP hD hS 0 rfl rfl 1 (by decide) w_1_234 rfl hin rfl rfl rfl (Nat.le_of_ble_eq_true rfl) rfl dX7_init_17 (fun H locs hP hD hS => ?_)
  refine lv_aload_n hx hb dX7_init_20 rfl (lv_at hl 0 rfl) ?_
  refine lv_iconst (v := 0) hx hb dX7_init_21 (by decide) ?_
  refine sk_put (ws' := [(h0, .inr (7, [.ref q_1, .ref q_2, .int 0, .int 0, .int 0, .int 0, .int 0])), (q_1, .inl (cI, 9, .inl (fun _ => 0))), (q_2, .inl (cI, 9, .inl (fun _ => 0)))]) (C := RX7) (T := TX7) (N := 7) (v := .int 0) hx hb hts inlX7 tyX7 tyX7_ok nmX7 hown hK hP hD hS 0 rfl rfl 2 (by decide) w_1_238 rfl rfl rfl (Nat.le_of_ble_eq_true rfl) rfl dX7_init_22 (fun H locs hP hD hS => ?_)
  refine lv_aload_n hx hb dX7_init_25 rfl (lv_at hl 0 rfl) ?_
  refine lv_iconst (v := 0) hx hb dX7_init_26 (by decide) ?_
  refine sk_put (ws' := [(h0, .inr (7, [.ref q_1, .ref q_2, .int 0, .int 0, .int 0, .int 0, .int 0])), (q_1, .inl (cI, 9, .inl (fun _ => 0))), (q_2, .inl (cI, 9, .inl (fun _ => 0)))]) (C := RX7) (T := TX7) (N := 7) (v := .int 0) hx hb hts inlX7 tyX7 tyX7_ok nmX7 hown hK hP hD hS 0 rfl rfl 3 (by decide) w_2_3 rfl rfl rfl (Nat.le_of_ble_eq_true rfl) rfl dX7_init_27 (fun H locs hP hD hS => ?_)
  refine lv_aload_n hx hb dX7_init_30 rfl (lv_at hl 0 rfl) ?_
  refine lv_iconst (v := 0) hx hb dX7_init_31 (by decide) ?_
  refine sk_put (ws' := [(h0, .inr (7, [.ref q_1, .ref q_2, .int 0, .int 0, .int 0, .int 0, .int 0])), (q_1, .inl (cI, 9, .inl (fun _ => 0))), (q_2, .inl (cI, 9, .inl (fun _ => 0)))]) (C := RX7) (T := TX7) (N := 7) (v := .int 0) hx hb hts inlX7 tyX7 tyX7_ok nmX7 hown hK hP hD hS 0 rfl rfl 4 (by decide) w_2_8 rfl rfl rfl (Nat.le_of_ble_eq_true rfl) rfl dX7_init_32 (fun H locs hP hD hS => ?_)
  refine lv_aload_n hx hb dX7_init_35 rfl (lv_at hl 0 rfl) ?_
  refine lv_iconst (v := 0) hx hb dX7_init_36 (by decide) ?_
  refine sk_put (ws' := [(h0, .inr (7, [.ref q_1, .ref q_2, .int 0, .int 0, .int 0, .int 0, .int 0])), (q_1, .inl (cI, 9, .inl (fun _ => 0))), (q_2, .inl (cI, 9, .inl (fun _ => 0)))]) (C := RX7) (T := TX7) (N := 7) (v := .int 0) hx hb hts inlX7 tyX7 tyX7_ok nmX7 hown hK hP hD hS 0 rfl rfl 5 (by decide) w_2_11 rfl rfl rfl (Nat.le_of_ble_eq_true rfl) rfl dX7_init_37 (fun H locs hP hD hS => ?_)
  refine lv_aload_n hx hb dX7_init_40 rfl (lv_at hl 0 rfl) ?_
  refine lv_iconst (v := 0) hx hb dX7_init_41 (by decide) ?_
  refine sk_put (ws' := [(h0, .inr (7, [.ref q_1, .ref q_2, .int 0, .int 0, .int 0, .int 0, .int 0])), (q_1, .inl (cI, 9, .inl (fun _ => 0))), (q_2, .inl (cI, 9, .inl (fun _ => 0)))]) (C := RX7) (T := TX7) (N := 7) (v := .int 0) hx hb hts inlX7 tyX7 tyX7_ok nmX7 hown hK hP hD hS 0 rfl rfl 6 (by decide) w_2_13 rfl rfl rfl (Nat.le_of_ble_eq_true rfl) rfl dX7_init_42 (fun H locs hP hD hS => ?_)
  have hP := hP.sub (ws' := [(h0, .inr (7, [.ref q_1, .ref q_2, .int 0, .int 0, .int 0, .int 0, .int 0]))]) [0] rfl
  have hD := hD.sub (ws' := [(h0, .inr (7, [.ref q_1, .ref q_2, .int 0, .int 0, .int 0, .int 0, .int 0]))]) [0] (by decide) rfl
  exact sk_vret hx hb hr hlocks hK hP hD hS (⟨q_1, q_2, rfl⟩) (Nat.le_of_ble_eq_true rfl) (Nat.le_of_ble_eq_true rfl) dX7_init_45
theorem dX0_init_0 : decode cX0_init 0 = .ok (.aload_n 0, 1) := by decide +kernel
theorem dX0_init_1 : decode cX0_init 1 = .ok (.invokespecial 3, 3) := by decide +kernel
theorem dX0_init_4 : decode cX0_init 4 = .ok (.aload_n 0, 1) := by decide +kernel
theorem dX0_init_5 : decode cX0_init 5 = .ok (.sipush 1600, 3) := by decide +kernel
theorem dX0_init_8 : decode cX0_init 8 = .ok (.newarray .int, 2) := by decide +kernel
theorem dX0_init_10 : decode cX0_init 10 = .ok (.putfield 11, 3) := by decide +kernel
theorem dX0_init_13 : decode cX0_init 13 = .ok (.aload_n 0, 1) := by decide +kernel
theorem dX0_init_14 : decode cX0_init 14 = .ok (.bipush 64, 2) := by decide +kernel
theorem dX0_init_16 : decode cX0_init 16 = .ok (.newarray .long, 2) := by decide +kernel
theorem dX0_init_18 : decode cX0_init 18 = .ok (.putfield 17, 3) := by decide +kernel
theorem dX0_init_21 : decode cX0_init 21 = .ok (.aload_n 0, 1) := by decide +kernel
theorem dX0_init_22 : decode cX0_init 22 = .ok (.bipush 9, 2) := by decide +kernel
theorem dX0_init_24 : decode cX0_init 24 = .ok (.newarray .long, 2) := by decide +kernel
theorem dX0_init_26 : decode cX0_init 26 = .ok (.putfield 21, 3) := by decide +kernel
theorem dX0_init_29 : decode cX0_init 29 = .ok (.aload_n 0, 1) := by decide +kernel
theorem dX0_init_30 : decode cX0_init 30 = .ok (.bipush 10, 2) := by decide +kernel
theorem dX0_init_32 : decode cX0_init 32 = .ok (.newarray .long, 2) := by decide +kernel
theorem dX0_init_34 : decode cX0_init 34 = .ok (.putfield 24, 3) := by decide +kernel
theorem dX0_init_37 : decode cX0_init 37 = .ok (.aload_n 0, 1) := by decide +kernel
theorem dX0_init_38 : decode cX0_init 38 = .ok (.iconst 0, 1) := by decide +kernel
theorem dX0_init_39 : decode cX0_init 39 = .ok (.putfield 27, 3) := by decide +kernel
theorem dX0_init_42 : decode cX0_init 42 = .ok (.aload_n 0, 1) := by decide +kernel
theorem dX0_init_43 : decode cX0_init 43 = .ok (.iconst 0, 1) := by decide +kernel
theorem dX0_init_44 : decode cX0_init 44 = .ok (.putfield 31, 3) := by decide +kernel
theorem dX0_init_47 : decode cX0_init 47 = .ok (.return_, 1) := by decide +kernel
theorem w_1_128 : (Cond.methodLink RX0 3 objectInit) ∈ wsL_law := sk_mem (ck_1 _ (List.mem_of_getElem? (i := 128) rfl)) rfl
theorem w_1_129 : (Cond.fieldLink RX0 11 "SameKeeper$Code" "steps" "[I") ∈ wsL_law := sk_mem (ck_1 _ (List.mem_of_getElem? (i := 129) rfl)) rfl
theorem w_1_151 : (Cond.arrayClass .long) ∈ wsL_law := sk_mem (ck_1 _ (List.mem_of_getElem? (i := 151) rfl)) rfl
theorem w_1_130 : (Cond.fieldLink RX0 17 "SameKeeper$Code" "stack" "[J") ∈ wsL_law := sk_mem (ck_1 _ (List.mem_of_getElem? (i := 130) rfl)) rfl
theorem w_1_131 : (Cond.fieldLink RX0 21 "SameKeeper$Code" "names" "[J") ∈ wsL_law := sk_mem (ck_1 _ (List.mem_of_getElem? (i := 131) rfl)) rfl
theorem w_1_132 : (Cond.fieldLink RX0 24 "SameKeeper$Code" "counts" "[J") ∈ wsL_law := sk_mem (ck_1 _ (List.mem_of_getElem? (i := 132) rfl)) rfl
theorem w_1_133 : (Cond.fieldLink RX0 27 "SameKeeper$Code" "length" "I") ∈ wsL_law := sk_mem (ck_1 _ (List.mem_of_getElem? (i := 133) rfl)) rfl
theorem w_1_136 : (Cond.fieldLink RX0 31 "SameKeeper$Code" "mindsWeek" "Z") ∈ wsL_law := sk_mem (ck_1 _ (List.mem_of_getElem? (i := 136) rfl)) rfl
theorem w_1_127 : (Cond.code yX0_init cX0_init 1 none) ∈ wsL_law := sk_mem (ck_1 _ (List.mem_of_getElem? (i := 127) rfl)) rfl
set_option maxHeartbeats 4000000 in
set_option maxRecDepth 100000 in
theorem c_Code_init (l : Launch) (D : va_G) (cI cJ cC cZ cS : ClassId) (h0 : Nat)  : skM l yX0_init cX0_init 1 none 1 20 4 1683 D (skT cI cJ cC cZ cS) [.ref h0] [(h0, .inr (0, [.null, .null, .null, .null, .int 0, .int 0]))] (skV D (skT cI cJ cC cZ cS) (fun (u : va_W) => ∃ (k1 : Nat), ∃ (k2 : Nat), ∃ (k3 : Nat), ∃ (k4 : Nat), u = [(h0, .inr (0, [.ref k1, .ref k2, .ref k3, .ref k4, .int 0, .int 0])), (k1, .inl (cI, 1600, .inl (fun _ => 0)))])) := by
  refine skM_of (by decide) (Nat.le_of_ble_eq_true rfl) ?_
  intro p e s m below meth c A ls E hP hD hl
  obtain ⟨hx, hb, hr, hml, hlocks, hin, hown, hts, hK, hA⟩ := E
  have hown : s.vm.findClass RX0 = some m.cls := hown
  have hin : meth.name = "<init>" := hin
  have hS : va_S A s.heap s.heap [] := va_S.rf
  have hl : lv_has ls 1 [(0, .ref h0)] := hl
  refine lv_aload_n hx hb dX0_init_0 rfl (lv_at hl 0 rfl) ?_
  refine W.objInit hx hb hown (hts _ w_1_128) (hts _ w_1_28) (hts _ w_1_29) rfl (by rw [hml]; exact hl.1) rfl dX0_init_1 (Nat.le_of_ble_eq_true rfl) (Nat.le_of_ble_eq_true rfl) ?_
  refine W.eq (g2 := F0 m 4 ls []) rfl ?_
  refine lv_aload_n hx hb dX0_init_4 rfl (lv_at hl 0 rfl) ?_
  refine lv_sipush (v := 1600) hx hb dX0_init_5 (by decide) ?_
  refine sk_newa (atype := .int) (ty := .int) (a0 := (1600, .inl (fun _ => 0))) (cA := cI) (k1 := 1) (n1 := 1600) hx hb hts w_1_49 rfl (fun _ _ h => h) 0 rfl hK hP hD hS hA (fun _ => vp_cell_i _ _ _) (by decide) (by decide) (Nat.le_of_ble_eq_true rfl) (Nat.le_of_ble_eq_true rfl) (Nat.le_of_ble_eq_true rfl) (Nat.le_of_ble_eq_true rfl) (Nat.le_of_ble_eq_true rfl) dX0_init_8 (fun q_1 H hP hD hS => ?_)
  have hP : va_P D vwCl [(h0, .inr (0, [.null, .null, .null, .null, .int 0, .int 0])), (q_1, .inl (cI, 1600, .inl (fun _ => 0)))] H := hP
  have hD : va_D A [(h0, .inr (0, [.null, .null, .null, .null, .int 0, .int 0])), (q_1, .inl (cI, 1600, .inl (fun _ => 0)))] := hD
  refine sk_putF (ws' := [(h0, .inr (0, [.ref q_1, .null, .null, .null, .int 0, .int 0])), (q_1, .inl (cI, 1600, .inl (fun _ => 0)))]) (C := RX0) (T := TX0) (N := 6) (v := .ref q_1) hx hb hts inlX0 tyX0 tyX0_ok nmX0 hown hK hP hD hS 0 rfl rfl 0 (by decide) w_1_129 rfl hin rfl rfl rfl (Nat.le_of_ble_eq_true rfl) rfl dX0_init_10 (fun H locs hP hD hS => ?_)
  refine lv_aload_n hx hb dX0_init_13 rfl (lv_at hl 0 rfl) ?_
  refine lv_bipush (v := 64) hx hb dX0_init_14 (by decide) ?_
  refine sk_newa (atype := .long) (ty := .long) (a0 := (64, .inr (.inl (fun _ => 0)))) (cA := cJ) (k1 := 2) (n1 := 1664) hx hb hts w_1_151 rfl (fun _ _ h => h) 1 rfl hK hP hD hS hA (fun _ => vp_cell_l _ _ _) (by decide) (by decide) (Nat.le_of_ble_eq_true rfl) (Nat.le_of_ble_eq_true rfl) (Nat.le_of_ble_eq_true rfl) (Nat.le_of_ble_eq_true rfl) (Nat.le_of_ble_eq_true rfl) dX0_init_16 (fun q_2 H hP hD hS => ?_)
  have hP : va_P D vwCl [(h0, .inr (0, [.ref q_1, .null, .null, .null, .int 0, .int 0])), (q_1, .inl (cI, 1600, .inl (fun _ => 0))), (q_2, .inl (cJ, 64, .inr (.inl (fun _ => 0))))] H := hP
  have hD : va_D A [(h0, .inr (0, [.ref q_1, .null, .null, .null, .int 0, .int 0])), (q_1, .inl (cI, 1600, .inl (fun _ => 0))), (q_2, .inl (cJ, 64, .inr (.inl (fun _ => 0))))] := hD
  refine sk_putF (ws' := [(h0, .inr (0, [.ref q_1, .ref q_2, .null, .null, .int 0, .int 0])), (q_1, .inl (cI, 1600, .inl (fun _ => 0))), (q_2, .inl (cJ, 64, .inr (.inl (fun _ => 0))))]) (C := RX0) (T := TX0) (N := 6) (v := .ref q_2) hx hb hts inlX0 tyX0 tyX0_ok nmX0 hown hK hP hD hS 0 rfl rfl 1 (by decide) w_1_130 rfl hin rfl rfl rfl (Nat.le_of_ble_eq_true rfl) rfl dX0_init_18 (fun H locs hP hD hS => ?_)
  refine lv_aload_n hx hb dX0_init_21 rfl (lv_at hl 0 rfl) ?_
  refine lv_bipush (v := 9) hx hb dX0_init_22 (by decide) ?_
  refine sk_newa (atype := .long) (ty := .long) (a0 := (9, .inr (.inl (fun _ => 0)))) (cA := cJ) (k1 := 3) (n1 := 1673) hx hb hts w_1_151 rfl (fun _ _ h => h) 1 rfl hK hP hD hS hA (fun _ => vp_cell_l _ _ _) (by decide) (by decide) (Nat.le_of_ble_eq_true rfl) (Nat.le_of_ble_eq_true rfl) (Nat.le_of_ble_eq_true rfl) (Nat.le_of_ble_eq_true rfl) (Nat.le_of_ble_eq_true rfl) dX0_init_24 (fun q_3 H hP hD hS => ?_)
  have hP : va_P D vwCl [(h0, .inr (0, [.ref q_1, .ref q_2, .null, .null, .int 0, .int 0])), (q_1, .inl (cI, 1600, .inl (fun _ => 0))), (q_2, .inl (cJ, 64, .inr (.inl (fun _ => 0)))), (q_3, .inl (cJ, 9, .inr (.inl (fun _ => 0))))] H := hP
  have hD : va_D A [(h0, .inr (0, [.ref q_1, .ref q_2, .null, .null, .int 0, .int 0])), (q_1, .inl (cI, 1600, .inl (fun _ => 0))), (q_2, .inl (cJ, 64, .inr (.inl (fun _ => 0)))), (q_3, .inl (cJ, 9, .inr (.inl (fun _ => 0))))] := hD
  refine sk_putF (ws' := [(h0, .inr (0, [.ref q_1, .ref q_2, .ref q_3, .null, .int 0, .int 0])), (q_1, .inl (cI, 1600, .inl (fun _ => 0))), (q_2, .inl (cJ, 64, .inr (.inl (fun _ => 0)))), (q_3, .inl (cJ, 9, .inr (.inl (fun _ => 0))))]) (C := RX0) (T := TX0) (N := 6) (v := .ref q_3) hx hb hts inlX0 tyX0 tyX0_ok nmX0 hown hK hP hD hS 0 rfl rfl 2 (by decide) w_1_131 rfl hin rfl rfl rfl (Nat.le_of_ble_eq_true rfl) rfl dX0_init_26 (fun H locs hP hD hS => ?_)
  refine lv_aload_n hx hb dX0_init_29 rfl (lv_at hl 0 rfl) ?_
  refine lv_bipush (v := 10) hx hb dX0_init_30 (by decide) ?_
  refine sk_newa (atype := .long) (ty := .long) (a0 := (10, .inr (.inl (fun _ => 0)))) (cA := cJ) (k1 := 4) (n1 := 1683) hx hb hts w_1_151 rfl (fun _ _ h => h) 1 rfl hK hP hD hS hA (fun _ => vp_cell_l _ _ _) (by decide) (by decide) (Nat.le_of_ble_eq_true rfl) (Nat.le_of_ble_eq_true rfl) (Nat.le_of_ble_eq_true rfl) (Nat.le_of_ble_eq_true rfl) (Nat.le_of_ble_eq_true rfl) dX0_init_32 (fun q_4 H hP hD hS => ?_)
  have hP : va_P D vwCl [(h0, .inr (0, [.ref q_1, .ref q_2, .ref q_3, .null, .int 0, .int 0])), (q_1, .inl (cI, 1600, .inl (fun _ => 0))), (q_2, .inl (cJ, 64, .inr (.inl (fun _ => 0)))), (q_3, .inl (cJ, 9, .inr (.inl (fun _ => 0)))), (q_4, .inl (cJ, 10, .inr (.inl (fun _ => 0))))] H := hP
  have hD : va_D A [(h0, .inr (0, [.ref q_1, .ref q_2, .ref q_3, .null, .int 0, .int 0])), (q_1, .inl (cI, 1600, .inl (fun _ => 0))), (q_2, .inl (cJ, 64, .inr (.inl (fun _ => 0)))), (q_3, .inl (cJ, 9, .inr (.inl (fun _ => 0)))), (q_4, .inl (cJ, 10, .inr (.inl (fun _ => 0))))] := hD
  refine sk_putF (ws' := [(h0, .inr (0, [.ref q_1, .ref q_2, .ref q_3, .ref q_4, .int 0, .int 0])), (q_1, .inl (cI, 1600, .inl (fun _ => 0))), (q_2, .inl (cJ, 64, .inr (.inl (fun _ => 0)))), (q_3, .inl (cJ, 9, .inr (.inl (fun _ => 0)))), (q_4, .inl (cJ, 10, .inr (.inl (fun _ => 0))))]) (C := RX0) (T := TX0) (N := 6) (v := .ref q_4) hx hb hts inlX0 tyX0 tyX0_ok nmX0 hown hK hP hD hS 0 rfl rfl 3 (by decide) w_1_132 rfl hin rfl rfl rfl (Nat.le_of_ble_eq_true rfl) rfl dX0_init_34 (fun H locs hP hD hS => ?_)
  refine lv_aload_n hx hb dX0_init_37 rfl (lv_at hl 0 rfl) ?_
  refine lv_iconst (v := 0) hx hb dX0_init_38 (by decide) ?_
  refine sk_put (ws' := [(h0, .inr (0, [.ref q_1, .ref q_2, .ref q_3, .ref q_4, .int 0, .int 0])), (q_1, .inl (cI, 1600, .inl (fun _ => 0))), (q_2, .inl (cJ, 64, .inr (.inl (fun _ => 0)))), (q_3, .inl (cJ, 9, .inr (.inl (fun _ => 0)))), (q_4, .inl (cJ, 10, .inr (.inl (fun _ => 0))))]) (C := RX0) (T := TX0) (N := 6) (v := .int 0) hx hb hts inlX0 tyX0 tyX0_ok nmX0 hown hK hP hD hS 0 rfl rfl 4 (by decide) w_1_133 rfl rfl rfl (Nat.le_of_ble_eq_true rfl) rfl dX0_init_39 (fun H locs hP hD hS => ?_)
  refine lv_aload_n hx hb dX0_init_42 rfl (lv_at hl 0 rfl) ?_
  refine lv_iconst (v := 0) hx hb dX0_init_43 (by decide) ?_
  refine sk_put (ws' := [(h0, .inr (0, [.ref q_1, .ref q_2, .ref q_3, .ref q_4, .int 0, .int 0])), (q_1, .inl (cI, 1600, .inl (fun _ => 0))), (q_2, .inl (cJ, 64, .inr (.inl (fun _ => 0)))), (q_3, .inl (cJ, 9, .inr (.inl (fun _ => 0)))), (q_4, .inl (cJ, 10, .inr (.inl (fun _ => 0))))]) (C := RX0) (T := TX0) (N := 6) (v := .int 0) hx hb hts inlX0 tyX0 tyX0_ok nmX0 hown hK hP hD hS 0 rfl rfl 5 (by decide) w_1_136 rfl rfl rfl (Nat.le_of_ble_eq_true rfl) rfl dX0_init_44 (fun H locs hP hD hS => ?_)
  have hP := hP.sub (ws' := [(h0, .inr (0, [.ref q_1, .ref q_2, .ref q_3, .ref q_4, .int 0, .int 0])), (q_1, .inl (cI, 1600, .inl (fun _ => 0)))]) [0, 1] rfl
  have hD := hD.sub (ws' := [(h0, .inr (0, [.ref q_1, .ref q_2, .ref q_3, .ref q_4, .int 0, .int 0])), (q_1, .inl (cI, 1600, .inl (fun _ => 0)))]) [0, 1] (by decide) rfl
  exact sk_vret hx hb hr hlocks hK hP hD hS (⟨q_1, q_2, q_3, q_4, rfl⟩) (Nat.le_of_ble_eq_true rfl) (Nat.le_of_ble_eq_true rfl) dX0_init_47
theorem dX8_init_0 : decode cX8_init 0 = .ok (.aload_n 0, 1) := by decide +kernel
theorem dX8_init_1 : decode cX8_init 1 = .ok (.invokespecial 3, 3) := by decide +kernel
theorem dX8_init_4 : decode cX8_init 4 = .ok (.aload_n 0, 1) := by decide +kernel
theorem dX8_init_5 : decode cX8_init 5 = .ok (.aload_n 1, 1) := by decide +kernel
theorem dX8_init_6 : decode cX8_init 6 = .ok (.putfield 9, 3) := by decide +kernel
theorem dX8_init_9 : decode cX8_init 9 = .ok (.aload_n 0, 1) := by decide +kernel
theorem dX8_init_10 : decode cX8_init 10 = .ok (.iload_n 2, 1) := by decide +kernel
theorem dX8_init_11 : decode cX8_init 11 = .ok (.putfield 15, 3) := by decide +kernel
theorem dX8_init_14 : decode cX8_init 14 = .ok (.return_, 1) := by decide +kernel
theorem w_1_99 : (Cond.methodLink RX8 3 objectInit) ∈ wsL_law := sk_mem (ck_1 _ (List.mem_of_getElem? (i := 99) rfl)) rfl
theorem w_1_100 : (Cond.fieldLink RX8 9 "SameKeeper$Sums" "reader" "LSameKeeper$Reader;") ∈ wsL_law := sk_mem (ck_1 _ (List.mem_of_getElem? (i := 100) rfl)) rfl
theorem w_1_101 : (Cond.fieldLink RX8 15 "SameKeeper$Sums" "kind" "I") ∈ wsL_law := sk_mem (ck_1 _ (List.mem_of_getElem? (i := 101) rfl)) rfl
theorem w_1_98 : (Cond.code yX8_init cX8_init 3 none) ∈ wsL_law := sk_mem (ck_1 _ (List.mem_of_getElem? (i := 98) rfl)) rfl
set_option maxHeartbeats 4000000 in
set_option maxRecDepth 100000 in
theorem c_Sums_init (l : Launch) (D : va_G) (cI cJ cC cZ cS : ClassId) (h0 : Nat) (rd : Nat) (kd : Int32)  : skM l yX8_init cX8_init 3 none 1 20 0 0 D (skT cI cJ cC cZ cS) [.ref h0, .ref rd, .int kd] [(h0, .inr (8, [.null, .int 0]))] (skV D (skT cI cJ cC cZ cS) (fun (u : va_W) => u = [])) := by
  refine skM_of (by decide) (Nat.le_of_ble_eq_true rfl) ?_
  intro p e s m below meth c A ls E hP hD hl
  obtain ⟨hx, hb, hr, hml, hlocks, hin, hown, hts, hK, hA⟩ := E
  have hown : s.vm.findClass RX8 = some m.cls := hown
  have hin : meth.name = "<init>" := hin
  have hS : va_S A s.heap s.heap [] := va_S.rf
  have hl : lv_has ls 3 [(0, .ref h0), (1, .ref rd), (2, .int kd)] := hl
  refine lv_aload_n hx hb dX8_init_0 rfl (lv_at hl 0 rfl) ?_
  refine W.objInit hx hb hown (hts _ w_1_99) (hts _ w_1_28) (hts _ w_1_29) rfl (by rw [hml]; exact hl.1) rfl dX8_init_1 (Nat.le_of_ble_eq_true rfl) (Nat.le_of_ble_eq_true rfl) ?_
  refine W.eq (g2 := F0 m 4 ls []) rfl ?_
  refine lv_aload_n hx hb dX8_init_4 rfl (lv_at hl 0 rfl) ?_
  refine lv_aload_n hx hb dX8_init_5 rfl (lv_at hl 1 rfl) ?_
  refine sk_putF (ws' := [(h0, .inr (8, [.ref rd, .int 0]))]) (C := RX8) (T := TX8) (N := 2) (v := .ref rd) hx hb hts inlX8 tyX8 tyX8_ok nmX8 hown hK hP hD hS 0 rfl rfl 0 (by decide) w_1_100 rfl hin rfl rfl rfl (Nat.le_of_ble_eq_true rfl) rfl dX8_init_6 (fun H locs hP hD hS => ?_)
  refine lv_aload_n hx hb dX8_init_9 rfl (lv_at hl 0 rfl) ?_
  refine lv_iload_n hx hb dX8_init_10 rfl (lv_at hl 2 rfl) ?_
  refine sk_putF (ws' := [(h0, .inr (8, [.ref rd, .int kd]))]) (C := RX8) (T := TX8) (N := 2) (v := .int kd) hx hb hts inlX8 tyX8 tyX8_ok nmX8 hown hK hP hD hS 0 rfl rfl 1 (by decide) w_1_101 rfl hin rfl rfl rfl (Nat.le_of_ble_eq_true rfl) rfl dX8_init_11 (fun H locs hP hD hS => ?_)
  have hP := hP.sub (ws' := []) [] rfl
  have hD := hD.sub (ws' := []) [] (by decide) rfl
  exact sk_vret hx hb hr hlocks hK hP hD hS rfl (Nat.le_of_ble_eq_true rfl) (Nat.le_of_ble_eq_true rfl) dX8_init_14
theorem dX6_init_0 : decode cX6_init 0 = .ok (.aload_n 0, 1) := by decide +kernel
theorem dX6_init_1 : decode cX6_init 1 = .ok (.invokespecial 3, 3) := by decide +kernel
theorem dX6_init_4 : decode cX6_init 4 = .ok (.aload_n 0, 1) := by decide +kernel
theorem dX6_init_5 : decode cX6_init 5 = .ok (.iconst 0, 1) := by decide +kernel
theorem dX6_init_6 : decode cX6_init 6 = .ok (.putfield 9, 3) := by decide +kernel
theorem dX6_init_9 : decode cX6_init 9 = .ok (.aload_n 0, 1) := by decide +kernel
theorem dX6_init_10 : decode cX6_init 10 = .ok (.iconst 0, 1) := by decide +kernel
theorem dX6_init_11 : decode cX6_init 11 = .ok (.putfield 15, 3) := by decide +kernel
theorem dX6_init_14 : decode cX6_init 14 = .ok (.aload_n 0, 1) := by decide +kernel
theorem dX6_init_15 : decode cX6_init 15 = .ok (.iconst 0, 1) := by decide +kernel
theorem dX6_init_16 : decode cX6_init 16 = .ok (.putfield 18, 3) := by decide +kernel
theorem dX6_init_19 : decode cX6_init 19 = .ok (.aload_n 0, 1) := by decide +kernel
theorem dX6_init_20 : decode cX6_init 20 = .ok (.iconst (-1), 1) := by decide +kernel
theorem dX6_init_21 : decode cX6_init 21 = .ok (.putfield 21, 3) := by decide +kernel
theorem dX6_init_24 : decode cX6_init 24 = .ok (.aload_n 0, 1) := by decide +kernel
theorem dX6_init_25 : decode cX6_init 25 = .ok (.iconst 0, 1) := by decide +kernel
theorem dX6_init_26 : decode cX6_init 26 = .ok (.putfield 24, 3) := by decide +kernel
theorem dX6_init_29 : decode cX6_init 29 = .ok (.aload_n 0, 1) := by decide +kernel
theorem dX6_init_30 : decode cX6_init 30 = .ok (.iconst 0, 1) := by decide +kernel
theorem dX6_init_31 : decode cX6_init 31 = .ok (.putfield 27, 3) := by decide +kernel
theorem dX6_init_34 : decode cX6_init 34 = .ok (.aload_n 0, 1) := by decide +kernel
theorem dX6_init_35 : decode cX6_init 35 = .ok (.iconst (-1), 1) := by decide +kernel
theorem dX6_init_36 : decode cX6_init 36 = .ok (.putfield 30, 3) := by decide +kernel
theorem dX6_init_39 : decode cX6_init 39 = .ok (.aload_n 0, 1) := by decide +kernel
theorem dX6_init_40 : decode cX6_init 40 = .ok (.aload_n 1, 1) := by decide +kernel
theorem dX6_init_41 : decode cX6_init 41 = .ok (.putfield 33, 3) := by decide +kernel
theorem dX6_init_44 : decode cX6_init 44 = .ok (.return_, 1) := by decide +kernel
theorem w_1_55 : (Cond.methodLink RX6 3 objectInit) ∈ wsL_law := sk_mem (ck_1 _ (List.mem_of_getElem? (i := 55) rfl)) rfl
theorem w_1_57 : (Cond.fieldLink RX6 9 "SameKeeper$Reader" "at" "I") ∈ wsL_law := sk_mem (ck_1 _ (List.mem_of_getElem? (i := 57) rfl)) rfl
theorem w_1_58 : (Cond.fieldLink RX6 15 "SameKeeper$Reader" "value" "I") ∈ wsL_law := sk_mem (ck_1 _ (List.mem_of_getElem? (i := 58) rfl)) rfl
theorem w_1_59 : (Cond.fieldLink RX6 18 "SameKeeper$Reader" "open" "I") ∈ wsL_law := sk_mem (ck_1 _ (List.mem_of_getElem? (i := 59) rfl)) rfl
theorem w_1_60 : (Cond.fieldLink RX6 21 "SameKeeper$Reader" "token" "I") ∈ wsL_law := sk_mem (ck_1 _ (List.mem_of_getElem? (i := 60) rfl)) rfl
theorem w_1_64 : (Cond.fieldLink RX6 24 "SameKeeper$Reader" "start" "I") ∈ wsL_law := sk_mem (ck_1 _ (List.mem_of_getElem? (i := 64) rfl)) rfl
theorem w_1_66 : (Cond.fieldLink RX6 27 "SameKeeper$Reader" "fault" "I") ∈ wsL_law := sk_mem (ck_1 _ (List.mem_of_getElem? (i := 66) rfl)) rfl
theorem w_1_69 : (Cond.fieldLink RX6 30 "SameKeeper$Reader" "place" "I") ∈ wsL_law := sk_mem (ck_1 _ (List.mem_of_getElem? (i := 69) rfl)) rfl
theorem w_1_56 : (Cond.fieldLink RX6 33 "SameKeeper$Reader" "tape" "LSameKeeper$Tape;") ∈ wsL_law := sk_mem (ck_1 _ (List.mem_of_getElem? (i := 56) rfl)) rfl
theorem w_1_54 : (Cond.code yX6_init cX6_init 2 none) ∈ wsL_law := sk_mem (ck_1 _ (List.mem_of_getElem? (i := 54) rfl)) rfl
set_option maxHeartbeats 4000000 in
set_option maxRecDepth 100000 in
theorem c_Reader_init (l : Launch) (D : va_G) (cI cJ cC cZ cS : ClassId) (h0 : Nat) (tp : Nat)  : skM l yX6_init cX6_init 2 none 1 20 0 0 D (skT cI cJ cC cZ cS) [.ref h0, .ref tp] [(h0, .inr (6, [.null, .int 0, .int 0, .int 0, .int 0, .int 0, .int 0, .int 0]))] (skV D (skT cI cJ cC cZ cS) (fun (u : va_W) => u = [(h0, .inr (6, [.ref tp, .int 0, .int 0, .int 0, .int (-1), .int 0, .int 0, .int (-1)]))])) := by
  refine skM_of (by decide) (Nat.le_of_ble_eq_true rfl) ?_
  intro p e s m below meth c A ls E hP hD hl
  obtain ⟨hx, hb, hr, hml, hlocks, hin, hown, hts, hK, hA⟩ := E
  have hown : s.vm.findClass RX6 = some m.cls := hown
  have hin : meth.name = "<init>" := hin
  have hS : va_S A s.heap s.heap [] := va_S.rf
  have hl : lv_has ls 2 [(0, .ref h0), (1, .ref tp)] := hl
  refine lv_aload_n hx hb dX6_init_0 rfl (lv_at hl 0 rfl) ?_
  refine W.objInit hx hb hown (hts _ w_1_55) (hts _ w_1_28) (hts _ w_1_29) rfl (by rw [hml]; exact hl.1) rfl dX6_init_1 (Nat.le_of_ble_eq_true rfl) (Nat.le_of_ble_eq_true rfl) ?_
  refine W.eq (g2 := F0 m 4 ls []) rfl ?_
  refine lv_aload_n hx hb dX6_init_4 rfl (lv_at hl 0 rfl) ?_
  refine lv_iconst (v := 0) hx hb dX6_init_5 (by decide) ?_
  refine sk_put (ws' := [(h0, .inr (6, [.null, .int 0, .int 0, .int 0, .int 0, .int 0, .int 0, .int 0]))]) (C := RX6) (T := TX6) (N := 8) (v := .int 0) hx hb hts inlX6 tyX6 tyX6_ok nmX6 hown hK hP hD hS 0 rfl rfl 1 (by decide) w_1_57 rfl rfl rfl (Nat.le_of_ble_eq_true rfl) rfl dX6_init_6 (fun H locs hP hD hS => ?_)
  refine lv_aload_n hx hb dX6_init_9 rfl (lv_at hl 0 rfl) ?_
  refine lv_iconst (v := 0) hx hb dX6_init_10 (by decide) ?_
  refine sk_put (ws' := [(h0, .inr (6, [.null, .int 0, .int 0, .int 0, .int 0, .int 0, .int 0, .int 0]))]) (C := RX6) (T := TX6) (N := 8) (v := .int 0) hx hb hts inlX6 tyX6 tyX6_ok nmX6 hown hK hP hD hS 0 rfl rfl 2 (by decide) w_1_58 rfl rfl rfl (Nat.le_of_ble_eq_true rfl) rfl dX6_init_11 (fun H locs hP hD hS => ?_)
  refine lv_aload_n hx hb dX6_init_14 rfl (lv_at hl 0 rfl) ?_
  refine lv_iconst (v := 0) hx hb dX6_init_15 (by decide) ?_
  refine sk_put (ws' := [(h0, .inr (6, [.null, .int 0, .int 0, .int 0, .int 0, .int 0, .int 0, .int 0]))]) (C := RX6) (T := TX6) (N := 8) (v := .int 0) hx hb hts inlX6 tyX6 tyX6_ok nmX6 hown hK hP hD hS 0 rfl rfl 3 (by decide) w_1_59 rfl rfl rfl (Nat.le_of_ble_eq_true rfl) rfl dX6_init_16 (fun H locs hP hD hS => ?_)
  refine lv_aload_n hx hb dX6_init_19 rfl (lv_at hl 0 rfl) ?_
  refine lv_iconst (v := (-1)) hx hb dX6_init_20 (by decide) ?_
  refine sk_put (ws' := [(h0, .inr (6, [.null, .int 0, .int 0, .int 0, .int (-1), .int 0, .int 0, .int 0]))]) (C := RX6) (T := TX6) (N := 8) (v := .int (-1)) hx hb hts inlX6 tyX6 tyX6_ok nmX6 hown hK hP hD hS 0 rfl rfl 4 (by decide) w_1_60 rfl rfl rfl (Nat.le_of_ble_eq_true rfl) rfl dX6_init_21 (fun H locs hP hD hS => ?_)
  refine lv_aload_n hx hb dX6_init_24 rfl (lv_at hl 0 rfl) ?_
  refine lv_iconst (v := 0) hx hb dX6_init_25 (by decide) ?_
  refine sk_put (ws' := [(h0, .inr (6, [.null, .int 0, .int 0, .int 0, .int (-1), .int 0, .int 0, .int 0]))]) (C := RX6) (T := TX6) (N := 8) (v := .int 0) hx hb hts inlX6 tyX6 tyX6_ok nmX6 hown hK hP hD hS 0 rfl rfl 5 (by decide) w_1_64 rfl rfl rfl (Nat.le_of_ble_eq_true rfl) rfl dX6_init_26 (fun H locs hP hD hS => ?_)
  refine lv_aload_n hx hb dX6_init_29 rfl (lv_at hl 0 rfl) ?_
  refine lv_iconst (v := 0) hx hb dX6_init_30 (by decide) ?_
  refine sk_put (ws' := [(h0, .inr (6, [.null, .int 0, .int 0, .int 0, .int (-1), .int 0, .int 0, .int 0]))]) (C := RX6) (T := TX6) (N := 8) (v := .int 0) hx hb hts inlX6 tyX6 tyX6_ok nmX6 hown hK hP hD hS 0 rfl rfl 6 (by decide) w_1_66 rfl rfl rfl (Nat.le_of_ble_eq_true rfl) rfl dX6_init_31 (fun H locs hP hD hS => ?_)
  refine lv_aload_n hx hb dX6_init_34 rfl (lv_at hl 0 rfl) ?_
  refine lv_iconst (v := (-1)) hx hb dX6_init_35 (by decide) ?_
  refine sk_put (ws' := [(h0, .inr (6, [.null, .int 0, .int 0, .int 0, .int (-1), .int 0, .int 0, .int (-1)]))]) (C := RX6) (T := TX6) (N := 8) (v := .int (-1)) hx hb hts inlX6 tyX6 tyX6_ok nmX6 hown hK hP hD hS 0 rfl rfl 7 (by decide) w_1_69 rfl rfl rfl (Nat.le_of_ble_eq_true rfl) rfl dX6_init_36 (fun H locs hP hD hS => ?_)
  refine lv_aload_n hx hb dX6_init_39 rfl (lv_at hl 0 rfl) ?_
  refine lv_aload_n hx hb dX6_init_40 rfl (lv_at hl 1 rfl) ?_
  refine sk_putF (ws' := [(h0, .inr (6, [.ref tp, .int 0, .int 0, .int 0, .int (-1), .int 0, .int 0, .int (-1)]))]) (C := RX6) (T := TX6) (N := 8) (v := .ref tp) hx hb hts inlX6 tyX6 tyX6_ok nmX6 hown hK hP hD hS 0 rfl rfl 0 (by decide) w_1_56 rfl hin rfl rfl rfl (Nat.le_of_ble_eq_true rfl) rfl dX6_init_41 (fun H locs hP hD hS => ?_)
  exact sk_vret hx hb hr hlocks hK hP hD hS rfl (Nat.le_of_ble_eq_true rfl) (Nat.le_of_ble_eq_true rfl) dX6_init_44
theorem dX3_init_0 : decode cX3_init 0 = .ok (.aload_n 0, 1) := by decide +kernel
theorem dX3_init_1 : decode cX3_init 1 = .ok (.invokespecial 3, 3) := by decide +kernel
theorem dX3_init_4 : decode cX3_init 4 = .ok (.aload_n 0, 1) := by decide +kernel
theorem dX3_init_5 : decode cX3_init 5 = .ok (.aload_n 1, 1) := by decide +kernel
theorem dX3_init_6 : decode cX3_init 6 = .ok (.putfield 9, 3) := by decide +kernel
theorem dX3_init_9 : decode cX3_init 9 = .ok (.aload_n 0, 1) := by decide +kernel
theorem dX3_init_10 : decode cX3_init 10 = .ok (.new 15, 3) := by decide +kernel
theorem dX3_init_13 : decode cX3_init 13 = .ok (.dup, 1) := by decide +kernel
theorem dX3_init_14 : decode cX3_init 14 = .ok (.aload_n 1, 1) := by decide +kernel
theorem dX3_init_15 : decode cX3_init 15 = .ok (.iconst 0, 1) := by decide +kernel
theorem dX3_init_16 : decode cX3_init 16 = .ok (.invokespecial 17, 3) := by decide +kernel
theorem dX3_init_19 : decode cX3_init 19 = .ok (.putfield 20, 3) := by decide +kernel
theorem dX3_init_22 : decode cX3_init 22 = .ok (.aload_n 0, 1) := by decide +kernel
theorem dX3_init_23 : decode cX3_init 23 = .ok (.new 15, 3) := by decide +kernel
theorem dX3_init_26 : decode cX3_init 26 = .ok (.dup, 1) := by decide +kernel
theorem dX3_init_27 : decode cX3_init 27 = .ok (.aload_n 1, 1) := by decide +kernel
theorem dX3_init_28 : decode cX3_init 28 = .ok (.iconst 1, 1) := by decide +kernel
theorem dX3_init_29 : decode cX3_init 29 = .ok (.invokespecial 17, 3) := by decide +kernel
theorem dX3_init_32 : decode cX3_init 32 = .ok (.putfield 24, 3) := by decide +kernel
theorem dX3_init_35 : decode cX3_init 35 = .ok (.return_, 1) := by decide +kernel
theorem w_1_93 : (Cond.methodLink RX3 3 objectInit) ∈ wsL_law := sk_mem (ck_1 _ (List.mem_of_getElem? (i := 93) rfl)) rfl
theorem w_1_107 : (Cond.fieldLink RX3 9 "SameKeeper$LockText" "reader" "LSameKeeper$Reader;") ∈ wsL_law := sk_mem (ck_1 _ (List.mem_of_getElem? (i := 107) rfl)) rfl
theorem w_1_94 : (Cond.classLink RX3 15 RX8) ∈ wsL_law := sk_mem (ck_1 _ (List.mem_of_getElem? (i := 94) rfl)) rfl
theorem w_1_95 : (Cond.instantiable RX8 2) ∈ wsL_law := sk_mem (ck_1 _ (List.mem_of_getElem? (i := 95) rfl)) rfl
theorem w_1_6 : (Cond.initialized RX8) ∈ wsL_law := sk_mem (ck_1 _ (List.mem_of_getElem? (i := 6) rfl)) rfl
theorem w_1_96 : (Cond.methodLink RX3 17 yX8_init) ∈ wsL_law := sk_mem (ck_1 _ (List.mem_of_getElem? (i := 96) rfl)) rfl
theorem w_1_97 : (Cond.instanceMethod yX8_init) ∈ wsL_law := sk_mem (ck_1 _ (List.mem_of_getElem? (i := 97) rfl)) rfl
theorem w_1_108 : (Cond.fieldLink RX3 20 "SameKeeper$LockText" "ofMood" "LSameKeeper$Sums;") ∈ wsL_law := sk_mem (ck_1 _ (List.mem_of_getElem? (i := 108) rfl)) rfl
theorem w_1_109 : (Cond.fieldLink RX3 24 "SameKeeper$LockText" "ofDeed" "LSameKeeper$Sums;") ∈ wsL_law := sk_mem (ck_1 _ (List.mem_of_getElem? (i := 109) rfl)) rfl
theorem w_1_92 : (Cond.code yX3_init cX3_init 2 none) ∈ wsL_law := sk_mem (ck_1 _ (List.mem_of_getElem? (i := 92) rfl)) rfl
set_option maxHeartbeats 4000000 in
set_option maxRecDepth 100000 in
theorem c_LockText_init (l : Launch) (D : va_G) (cI cJ cC cZ cS : ClassId) (h0 : Nat) (rd : Nat)  : skM l yX3_init cX3_init 2 none 2 42 2 4 D (skT cI cJ cC cZ cS) [.ref h0, .ref rd] [(h0, .inr (3, [.null, .null, .null]))] (skV D (skT cI cJ cC cZ cS) (fun (u : va_W) => ∃ (k1 : Nat), ∃ (k2 : Nat), u = [(h0, .inr (3, [.ref rd, .ref k1, .ref k2]))])) := by
  refine skM_of (by decide) (Nat.le_of_ble_eq_true rfl) ?_
  intro p e s m below meth c A ls E hP hD hl
  obtain ⟨hx, hb, hr, hml, hlocks, hin, hown, hts, hK, hA⟩ := E
  have hown : s.vm.findClass RX3 = some m.cls := hown
  have hin : meth.name = "<init>" := hin
  have hS : va_S A s.heap s.heap [] := va_S.rf
  have hl : lv_has ls 2 [(0, .ref h0), (1, .ref rd)] := hl
  refine lv_aload_n hx hb dX3_init_0 rfl (lv_at hl 0 rfl) ?_
  refine W.objInit hx hb hown (hts _ w_1_93) (hts _ w_1_28) (hts _ w_1_29) rfl (by rw [hml]; exact hl.1) rfl dX3_init_1 (Nat.le_of_ble_eq_true rfl) (Nat.le_of_ble_eq_true rfl) ?_
  refine W.eq (g2 := F0 m 4 ls []) rfl ?_
  refine lv_aload_n hx hb dX3_init_4 rfl (lv_at hl 0 rfl) ?_
  refine lv_aload_n hx hb dX3_init_5 rfl (lv_at hl 1 rfl) ?_
  refine sk_putF (ws' := [(h0, .inr (3, [.ref rd, .null, .null]))]) (C := RX3) (T := TX3) (N := 3) (v := .ref rd) hx hb hts inlX3 tyX3 tyX3_ok nmX3 hown hK hP hD hS 0 rfl rfl 0 (by decide) w_1_107 rfl hin rfl rfl rfl (Nat.le_of_ble_eq_true rfl) rfl dX3_init_6 (fun H locs hP hD hS => ?_)
  refine lv_aload_n hx hb dX3_init_9 rfl (lv_at hl 0 rfl) ?_
  refine sk_new (ci := 8) (fs := [.null, .int 0]) (C := RX8) (T := TX8) (N := 2) (k1 := 1) (n1 := 2) hx hb hts inlX8 tyX8 tyX8_ok hown w_1_94 w_1_95 w_1_6 hK hP hD hS hA rfl (fun j hj => by rcases (show j = 0 ∨ j = 1 by omega) with rfl | rfl <;> rfl) (Nat.le_of_ble_eq_true rfl) (Nat.le_of_ble_eq_true rfl) (Nat.le_of_ble_eq_true rfl) (Nat.le_of_ble_eq_true rfl) dX3_init_10 (fun q_1 H hP hD hS => ?_)
  have hP : va_P D vwCl [(h0, .inr (3, [.ref rd, .null, .null])), (q_1, .inr (8, [.null, .int 0]))] H := hP
  have hD : va_D A [(h0, .inr (3, [.ref rd, .null, .null])), (q_1, .inr (8, [.null, .int 0]))] := hD
  refine lv_dup hx hb dX3_init_13 rfl ?_
  refine lv_aload_n hx hb dX3_init_14 rfl (lv_at hl 1 rfl) ?_
  refine lv_iconst (v := 0) hx hb dX3_init_15 (by decide) ?_
  refine sk_Iv (n := 2) (rest := [.ref q_1, .ref h0]) (wr := [(h0, .inr (3, [.ref rd, .null, .null]))]) ⟨hx, hb, hml, hown, hts⟩ hl.1 (c_Sums_init l D cI cJ cC cZ cS q_1 rd 0) w_1_96 w_1_97 w_1_6 w_1_98 rfl (by decide +kernel) ⟨⟨(Nat.le_of_ble_eq_true rfl), (Nat.le_of_ble_eq_true rfl)⟩, (Nat.le_of_ble_eq_true rfl), (Nat.le_of_ble_eq_true rfl)⟩ hK hP hD hS hA [1] [0] rfl rfl (by decide) (by decide) (by decide) rfl rfl (Nat.le_of_ble_eq_true rfl) dX3_init_16 (fun u H locs hw hP hD hS => ?_)
  obtain rfl := hw
  have hP : va_P D vwCl [(h0, .inr (3, [.ref rd, .null, .null]))] H := hP
  have hD : va_D A [(h0, .inr (3, [.ref rd, .null, .null]))] := hD
  refine W.widen (k := 1) (n := 2) (Nat.le_of_ble_eq_true rfl) (Nat.le_of_ble_eq_true rfl) ?_
  refine sk_putF (ws' := [(h0, .inr (3, [.ref rd, .ref q_1, .null]))]) (C := RX3) (T := TX3) (N := 3) (v := .ref q_1) hx hb hts inlX3 tyX3 tyX3_ok nmX3 hown hK hP hD hS 0 rfl rfl 1 (by decide) w_1_108 rfl hin rfl rfl rfl (Nat.le_of_ble_eq_true rfl) rfl dX3_init_19 (fun H locs hP hD hS => ?_)
  refine lv_aload_n hx hb dX3_init_22 rfl (lv_at hl 0 rfl) ?_
  refine sk_new (ci := 8) (fs := [.null, .int 0]) (C := RX8) (T := TX8) (N := 2) (k1 := 2) (n1 := 4) hx hb hts inlX8 tyX8 tyX8_ok hown w_1_94 w_1_95 w_1_6 hK hP hD hS hA rfl (fun j hj => by rcases (show j = 0 ∨ j = 1 by omega) with rfl | rfl <;> rfl) (Nat.le_of_ble_eq_true rfl) (Nat.le_of_ble_eq_true rfl) (Nat.le_of_ble_eq_true rfl) (Nat.le_of_ble_eq_true rfl) dX3_init_23 (fun q_2 H hP hD hS => ?_)
  have hP : va_P D vwCl [(h0, .inr (3, [.ref rd, .ref q_1, .null])), (q_2, .inr (8, [.null, .int 0]))] H := hP
  have hD : va_D A [(h0, .inr (3, [.ref rd, .ref q_1, .null])), (q_2, .inr (8, [.null, .int 0]))] := hD
  refine lv_dup hx hb dX3_init_26 rfl ?_
  refine lv_aload_n hx hb dX3_init_27 rfl (lv_at hl 1 rfl) ?_
  refine lv_iconst (v := 1) hx hb dX3_init_28 (by decide) ?_
  refine sk_Iv (n := 2) (rest := [.ref q_2, .ref h0]) (wr := [(h0, .inr (3, [.ref rd, .ref q_1, .null]))]) ⟨hx, hb, hml, hown, hts⟩ hl.1 (c_Sums_init l D cI cJ cC cZ cS q_2 rd 1) w_1_96 w_1_97 w_1_6 w_1_98 rfl (by decide +kernel) ⟨⟨(Nat.le_of_ble_eq_true rfl), (Nat.le_of_ble_eq_true rfl)⟩, (Nat.le_of_ble_eq_true rfl), (Nat.le_of_ble_eq_true rfl)⟩ hK hP hD hS hA [1] [0] rfl rfl (by decide) (by decide) (by decide) rfl rfl (Nat.le_of_ble_eq_true rfl) dX3_init_29 (fun u H locs hw hP hD hS => ?_)
  obtain rfl := hw
  have hP : va_P D vwCl [(h0, .inr (3, [.ref rd, .ref q_1, .null]))] H := hP
  have hD : va_D A [(h0, .inr (3, [.ref rd, .ref q_1, .null]))] := hD
  refine W.widen (k := 2) (n := 4) (Nat.le_of_ble_eq_true rfl) (Nat.le_of_ble_eq_true rfl) ?_
  refine sk_putF (ws' := [(h0, .inr (3, [.ref rd, .ref q_1, .ref q_2]))]) (C := RX3) (T := TX3) (N := 3) (v := .ref q_2) hx hb hts inlX3 tyX3 tyX3_ok nmX3 hown hK hP hD hS 0 rfl rfl 2 (by decide) w_1_109 rfl hin rfl rfl rfl (Nat.le_of_ble_eq_true rfl) rfl dX3_init_32 (fun H locs hP hD hS => ?_)
  exact sk_vret hx hb hr hlocks hK hP hD hS (⟨q_1, q_2, rfl⟩) (Nat.le_of_ble_eq_true rfl) (Nat.le_of_ble_eq_true rfl) dX3_init_35
theorem dX5_init_0 : decode cX5_init 0 = .ok (.aload_n 0, 1) := by decide +kernel
theorem dX5_init_1 : decode cX5_init 1 = .ok (.invokespecial 3, 3) := by decide +kernel
theorem dX5_init_4 : decode cX5_init 4 = .ok (.aload_n 0, 1) := by decide +kernel
theorem dX5_init_5 : decode cX5_init 5 = .ok (.new 9, 3) := by decide +kernel
theorem dX5_init_8 : decode cX5_init 8 = .ok (.dup, 1) := by decide +kernel
theorem dX5_init_9 : decode cX5_init 9 = .ok (.invokespecial 11, 3) := by decide +kernel
theorem dX5_init_12 : decode cX5_init 12 = .ok (.putfield 12, 3) := by decide +kernel
theorem dX5_init_15 : decode cX5_init 15 = .ok (.aload_n 0, 1) := by decide +kernel
theorem dX5_init_16 : decode cX5_init 16 = .ok (.bipush (-2), 2) := by decide +kernel
theorem dX5_init_18 : decode cX5_init 18 = .ok (.putfield 20, 3) := by decide +kernel
theorem dX5_init_21 : decode cX5_init 21 = .ok (.aload_n 0, 1) := by decide +kernel
theorem dX5_init_22 : decode cX5_init 22 = .ok (.aload_n 1, 1) := by decide +kernel
theorem dX5_init_23 : decode cX5_init 23 = .ok (.putfield 24, 3) := by decide +kernel
theorem dX5_init_26 : decode cX5_init 26 = .ok (.aload_n 0, 1) := by decide +kernel
theorem dX5_init_27 : decode cX5_init 27 = .ok (.new 28, 3) := by decide +kernel
theorem dX5_init_30 : decode cX5_init 30 = .ok (.dup, 1) := by decide +kernel
theorem dX5_init_31 : decode cX5_init 31 = .ok (.aload_n 1, 1) := by decide +kernel
theorem dX5_init_32 : decode cX5_init 32 = .ok (.iconst 2, 1) := by decide +kernel
theorem dX5_init_33 : decode cX5_init 33 = .ok (.invokespecial 30, 3) := by decide +kernel
theorem dX5_init_36 : decode cX5_init 36 = .ok (.putfield 33, 3) := by decide +kernel
theorem dX5_init_39 : decode cX5_init 39 = .ok (.return_, 1) := by decide +kernel
theorem w_1_122 : (Cond.methodLink RX5 3 objectInit) ∈ wsL_law := sk_mem (ck_1 _ (List.mem_of_getElem? (i := 122) rfl)) rfl
theorem w_1_123 : (Cond.classLink RX5 9 RX0) ∈ wsL_law := sk_mem (ck_1 _ (List.mem_of_getElem? (i := 123) rfl)) rfl
theorem w_1_124 : (Cond.instantiable RX0 6) ∈ wsL_law := sk_mem (ck_1 _ (List.mem_of_getElem? (i := 124) rfl)) rfl
theorem w_1_8 : (Cond.initialized RX0) ∈ wsL_law := sk_mem (ck_1 _ (List.mem_of_getElem? (i := 8) rfl)) rfl
theorem w_1_126 : (Cond.instanceMethod yX0_init) ∈ wsL_law := sk_mem (ck_1 _ (List.mem_of_getElem? (i := 126) rfl)) rfl
theorem w_1_156 : (Cond.fieldLink RX5 12 "SameKeeper$Question" "code" "LSameKeeper$Code;") ∈ wsL_law := sk_mem (ck_1 _ (List.mem_of_getElem? (i := 156) rfl)) rfl
theorem w_1_157 : (Cond.fieldLink RX5 20 "SameKeeper$Question" "verb" "I") ∈ wsL_law := sk_mem (ck_1 _ (List.mem_of_getElem? (i := 157) rfl)) rfl
theorem w_1_154 : (Cond.fieldLink RX5 24 "SameKeeper$Question" "reader" "LSameKeeper$Reader;") ∈ wsL_law := sk_mem (ck_1 _ (List.mem_of_getElem? (i := 154) rfl)) rfl
theorem w_1_152 : (Cond.classLink RX5 28 RX8) ∈ wsL_law := sk_mem (ck_1 _ (List.mem_of_getElem? (i := 152) rfl)) rfl
theorem w_1_153 : (Cond.methodLink RX5 30 yX8_init) ∈ wsL_law := sk_mem (ck_1 _ (List.mem_of_getElem? (i := 153) rfl)) rfl
theorem w_1_155 : (Cond.fieldLink RX5 33 "SameKeeper$Question" "sums" "LSameKeeper$Sums;") ∈ wsL_law := sk_mem (ck_1 _ (List.mem_of_getElem? (i := 155) rfl)) rfl
theorem w_1_121 : (Cond.code yX5_init cX5_init 2 none) ∈ wsL_law := sk_mem (ck_1 _ (List.mem_of_getElem? (i := 121) rfl)) rfl
set_option maxHeartbeats 4000000 in
set_option maxRecDepth 100000 in
theorem c_Question_init (l : Launch) (D : va_G) (cI cJ cC cZ cS : ClassId) (h0 : Nat) (rd : Nat)  : skM l yX5_init cX5_init 2 none 2 42 6 1691 D (skT cI cJ cC cZ cS) [.ref h0, .ref rd] [(h0, .inr (5, [.null, .null, .null, .int 0]))] (skV D (skT cI cJ cC cZ cS) (fun (u : va_W) => u = [])) := by
  refine skM_of (by decide) (Nat.le_of_ble_eq_true rfl) ?_
  intro p e s m below meth c A ls E hP hD hl
  obtain ⟨hx, hb, hr, hml, hlocks, hin, hown, hts, hK, hA⟩ := E
  have hown : s.vm.findClass RX5 = some m.cls := hown
  have hin : meth.name = "<init>" := hin
  have hS : va_S A s.heap s.heap [] := va_S.rf
  have hl : lv_has ls 2 [(0, .ref h0), (1, .ref rd)] := hl
  refine lv_aload_n hx hb dX5_init_0 rfl (lv_at hl 0 rfl) ?_
  refine W.objInit hx hb hown (hts _ w_1_122) (hts _ w_1_28) (hts _ w_1_29) rfl (by rw [hml]; exact hl.1) rfl dX5_init_1 (Nat.le_of_ble_eq_true rfl) (Nat.le_of_ble_eq_true rfl) ?_
  refine W.eq (g2 := F0 m 4 ls []) rfl ?_
  refine lv_aload_n hx hb dX5_init_4 rfl (lv_at hl 0 rfl) ?_
  refine sk_new (ci := 0) (fs := [.null, .null, .null, .null, .int 0, .int 0]) (C := RX0) (T := TX0) (N := 6) (k1 := 1) (n1 := 6) hx hb hts inlX0 tyX0 tyX0_ok hown w_1_123 w_1_124 w_1_8 hK hP hD hS hA rfl (fun j hj => by rcases (show j = 0 ∨ j = 1 ∨ j = 2 ∨ j = 3 ∨ j = 4 ∨ j = 5 by omega) with rfl | rfl | rfl | rfl | rfl | rfl <;> rfl) (Nat.le_of_ble_eq_true rfl) (Nat.le_of_ble_eq_true rfl) (Nat.le_of_ble_eq_true rfl) (Nat.le_of_ble_eq_true rfl) dX5_init_5 (fun q_1 H hP hD hS => ?_)
  have hP : va_P D vwCl [(h0, .inr (5, [.null, .null, .null, .int 0])), (q_1, .inr (0, [.null, .null, .null, .null, .int 0, .int 0]))] H := hP
  have hD : va_D A [(h0, .inr (5, [.null, .null, .null, .int 0])), (q_1, .inr (0, [.null, .null, .null, .null, .int 0, .int 0]))] := hD
  refine lv_dup hx hb dX5_init_8 rfl ?_
  refine sk_INv (n := 0) (rest := [.ref q_1, .ref h0]) (wr := [(h0, .inr (5, [.null, .null, .null, .int 0]))]) ⟨hx, hb, hml, hown, hts⟩ hl.1 (c_Code_init l D cI cJ cC cZ cS q_1) hK.2.2.2.2.2.2.2 w_1_126 w_1_8 w_1_127 rfl (by decide +kernel) ⟨⟨(Nat.le_of_ble_eq_true rfl), (Nat.le_of_ble_eq_true rfl)⟩, (Nat.le_of_ble_eq_true rfl), (Nat.le_of_ble_eq_true rfl)⟩ hK hP hD hS hA [1] [0] rfl rfl (by decide) (by decide) (by decide) rfl rfl (Nat.le_of_ble_eq_true rfl) dX5_init_9 (fun u H locs hw hP hD hS => ?_)
  obtain ⟨k1_2, k2_3, k3_4, k4_5, rfl⟩ := hw
  have hP : va_P D vwCl [(h0, .inr (5, [.null, .null, .null, .int 0])), (q_1, .inr (0, [.ref k1_2, .ref k2_3, .ref k3_4, .ref k4_5, .int 0, .int 0])), (k1_2, .inl (cI, 1600, .inl (fun _ => 0)))] H := hP
  have hD : va_D A [(h0, .inr (5, [.null, .null, .null, .int 0])), (q_1, .inr (0, [.ref k1_2, .ref k2_3, .ref k3_4, .ref k4_5, .int 0, .int 0])), (k1_2, .inl (cI, 1600, .inl (fun _ => 0)))] := hD
  refine W.widen (k := 5) (n := 1689) (Nat.le_of_ble_eq_true rfl) (Nat.le_of_ble_eq_true rfl) ?_
  refine sk_putF (ws' := [(h0, .inr (5, [.null, .null, .ref q_1, .int 0])), (q_1, .inr (0, [.ref k1_2, .ref k2_3, .ref k3_4, .ref k4_5, .int 0, .int 0])), (k1_2, .inl (cI, 1600, .inl (fun _ => 0)))]) (C := RX5) (T := TX5) (N := 4) (v := .ref q_1) hx hb hts inlX5 tyX5 tyX5_ok nmX5 hown hK hP hD hS 0 rfl rfl 2 (by decide) w_1_156 rfl hin rfl rfl rfl (Nat.le_of_ble_eq_true rfl) rfl dX5_init_12 (fun H locs hP hD hS => ?_)
  refine lv_aload_n hx hb dX5_init_15 rfl (lv_at hl 0 rfl) ?_
  refine lv_bipush (v := (-2)) hx hb dX5_init_16 (by decide) ?_
  refine sk_put (ws' := [(h0, .inr (5, [.null, .null, .ref q_1, .int (-2)])), (q_1, .inr (0, [.ref k1_2, .ref k2_3, .ref k3_4, .ref k4_5, .int 0, .int 0])), (k1_2, .inl (cI, 1600, .inl (fun _ => 0)))]) (C := RX5) (T := TX5) (N := 4) (v := .int (-2)) hx hb hts inlX5 tyX5 tyX5_ok nmX5 hown hK hP hD hS 0 rfl rfl 3 (by decide) w_1_157 rfl rfl rfl (Nat.le_of_ble_eq_true rfl) rfl dX5_init_18 (fun H locs hP hD hS => ?_)
  refine lv_aload_n hx hb dX5_init_21 rfl (lv_at hl 0 rfl) ?_
  refine lv_aload_n hx hb dX5_init_22 rfl (lv_at hl 1 rfl) ?_
  refine sk_putF (ws' := [(h0, .inr (5, [.ref rd, .null, .ref q_1, .int (-2)])), (q_1, .inr (0, [.ref k1_2, .ref k2_3, .ref k3_4, .ref k4_5, .int 0, .int 0])), (k1_2, .inl (cI, 1600, .inl (fun _ => 0)))]) (C := RX5) (T := TX5) (N := 4) (v := .ref rd) hx hb hts inlX5 tyX5 tyX5_ok nmX5 hown hK hP hD hS 0 rfl rfl 0 (by decide) w_1_154 rfl hin rfl rfl rfl (Nat.le_of_ble_eq_true rfl) rfl dX5_init_23 (fun H locs hP hD hS => ?_)
  refine lv_aload_n hx hb dX5_init_26 rfl (lv_at hl 0 rfl) ?_
  refine sk_new (ci := 8) (fs := [.null, .int 0]) (C := RX8) (T := TX8) (N := 2) (k1 := 6) (n1 := 1691) hx hb hts inlX8 tyX8 tyX8_ok hown w_1_152 w_1_95 w_1_6 hK hP hD hS hA rfl (fun j hj => by rcases (show j = 0 ∨ j = 1 by omega) with rfl | rfl <;> rfl) (Nat.le_of_ble_eq_true rfl) (Nat.le_of_ble_eq_true rfl) (Nat.le_of_ble_eq_true rfl) (Nat.le_of_ble_eq_true rfl) dX5_init_27 (fun q_6 H hP hD hS => ?_)
  have hP : va_P D vwCl [(h0, .inr (5, [.ref rd, .null, .ref q_1, .int (-2)])), (q_1, .inr (0, [.ref k1_2, .ref k2_3, .ref k3_4, .ref k4_5, .int 0, .int 0])), (k1_2, .inl (cI, 1600, .inl (fun _ => 0))), (q_6, .inr (8, [.null, .int 0]))] H := hP
  have hD : va_D A [(h0, .inr (5, [.ref rd, .null, .ref q_1, .int (-2)])), (q_1, .inr (0, [.ref k1_2, .ref k2_3, .ref k3_4, .ref k4_5, .int 0, .int 0])), (k1_2, .inl (cI, 1600, .inl (fun _ => 0))), (q_6, .inr (8, [.null, .int 0]))] := hD
  refine lv_dup hx hb dX5_init_30 rfl ?_
  refine lv_aload_n hx hb dX5_init_31 rfl (lv_at hl 1 rfl) ?_
  refine lv_iconst (v := 2) hx hb dX5_init_32 (by decide) ?_
  refine sk_Iv (n := 2) (rest := [.ref q_6, .ref h0]) (wr := [(h0, .inr (5, [.ref rd, .null, .ref q_1, .int (-2)])), (q_1, .inr (0, [.ref k1_2, .ref k2_3, .ref k3_4, .ref k4_5, .int 0, .int 0])), (k1_2, .inl (cI, 1600, .inl (fun _ => 0)))]) ⟨hx, hb, hml, hown, hts⟩ hl.1 (c_Sums_init l D cI cJ cC cZ cS q_6 rd 2) w_1_153 w_1_97 w_1_6 w_1_98 rfl (by decide +kernel) ⟨⟨(Nat.le_of_ble_eq_true rfl), (Nat.le_of_ble_eq_true rfl)⟩, (Nat.le_of_ble_eq_true rfl), (Nat.le_of_ble_eq_true rfl)⟩ hK hP hD hS hA [3] [0, 1, 2] rfl rfl (by decide) (by decide) (by decide) rfl rfl (Nat.le_of_ble_eq_true rfl) dX5_init_33 (fun u H locs hw hP hD hS => ?_)
  obtain rfl := hw
  have hP : va_P D vwCl [(h0, .inr (5, [.ref rd, .null, .ref q_1, .int (-2)])), (q_1, .inr (0, [.ref k1_2, .ref k2_3, .ref k3_4, .ref k4_5, .int 0, .int 0])), (k1_2, .inl (cI, 1600, .inl (fun _ => 0)))] H := hP
  have hD : va_D A [(h0, .inr (5, [.ref rd, .null, .ref q_1, .int (-2)])), (q_1, .inr (0, [.ref k1_2, .ref k2_3, .ref k3_4, .ref k4_5, .int 0, .int 0])), (k1_2, .inl (cI, 1600, .inl (fun _ => 0)))] := hD
  refine W.widen (k := 6) (n := 1691) (Nat.le_of_ble_eq_true rfl) (Nat.le_of_ble_eq_true rfl) ?_
  refine sk_putF (ws' := [(h0, .inr (5, [.ref rd, .ref q_6, .ref q_1, .int (-2)])), (q_1, .inr (0, [.ref k1_2, .ref k2_3, .ref k3_4, .ref k4_5, .int 0, .int 0])), (k1_2, .inl (cI, 1600, .inl (fun _ => 0)))]) (C := RX5) (T := TX5) (N := 4) (v := .ref q_6) hx hb hts inlX5 tyX5 tyX5_ok nmX5 hown hK hP hD hS 0 rfl rfl 1 (by decide) w_1_155 rfl hin rfl rfl rfl (Nat.le_of_ble_eq_true rfl) rfl dX5_init_36 (fun H locs hP hD hS => ?_)
  have hP := hP.sub (ws' := []) [] rfl
  have hD := hD.sub (ws' := []) [] (by decide) rfl
  exact sk_vret hx hb hr hlocks hK hP hD hS rfl (Nat.le_of_ble_eq_true rfl) (Nat.le_of_ble_eq_true rfl) dX5_init_39
theorem dX2_init_0 : decode cX2_init 0 = .ok (.aload_n 0, 1) := by decide +kernel
theorem dX2_init_1 : decode cX2_init 1 = .ok (.invokespecial 3, 3) := by decide +kernel
theorem dX2_init_4 : decode cX2_init 4 = .ok (.aload_n 0, 1) := by decide +kernel
theorem dX2_init_5 : decode cX2_init 5 = .ok (.new 9, 3) := by decide +kernel
theorem dX2_init_8 : decode cX2_init 8 = .ok (.dup, 1) := by decide +kernel
theorem dX2_init_9 : decode cX2_init 9 = .ok (.invokespecial 11, 3) := by decide +kernel
theorem dX2_init_12 : decode cX2_init 12 = .ok (.putfield 12, 3) := by decide +kernel
theorem dX2_init_15 : decode cX2_init 15 = .ok (.aload_n 0, 1) := by decide +kernel
theorem dX2_init_16 : decode cX2_init 16 = .ok (.bipush 9, 2) := by decide +kernel
theorem dX2_init_18 : decode cX2_init 18 = .ok (.newarray .int, 2) := by decide +kernel
theorem dX2_init_20 : decode cX2_init 20 = .ok (.putfield 18, 3) := by decide +kernel
theorem dX2_init_23 : decode cX2_init 23 = .ok (.aload_n 0, 1) := by decide +kernel
theorem dX2_init_24 : decode cX2_init 24 = .ok (.bipush 9, 2) := by decide +kernel
theorem dX2_init_26 : decode cX2_init 26 = .ok (.newarray .int, 2) := by decide +kernel
theorem dX2_init_28 : decode cX2_init 28 = .ok (.putfield 22, 3) := by decide +kernel
theorem dX2_init_31 : decode cX2_init 31 = .ok (.aload_n 0, 1) := by decide +kernel
theorem dX2_init_32 : decode cX2_init 32 = .ok (.iconst 3, 1) := by decide +kernel
theorem dX2_init_33 : decode cX2_init 33 = .ok (.newarray .int, 2) := by decide +kernel
theorem dX2_init_35 : decode cX2_init 35 = .ok (.putfield 25, 3) := by decide +kernel
theorem dX2_init_38 : decode cX2_init 38 = .ok (.aload_n 0, 1) := by decide +kernel
theorem dX2_init_39 : decode cX2_init 39 = .ok (.iconst 3, 1) := by decide +kernel
theorem dX2_init_40 : decode cX2_init 40 = .ok (.newarray .int, 2) := by decide +kernel
theorem dX2_init_42 : decode cX2_init 42 = .ok (.putfield 28, 3) := by decide +kernel
theorem dX2_init_45 : decode cX2_init 45 = .ok (.aload_n 0, 1) := by decide +kernel
theorem dX2_init_46 : decode cX2_init 46 = .ok (.iconst 0, 1) := by decide +kernel
theorem dX2_init_47 : decode cX2_init 47 = .ok (.putfield 31, 3) := by decide +kernel
theorem dX2_init_50 : decode cX2_init 50 = .ok (.aload_n 0, 1) := by decide +kernel
theorem dX2_init_51 : decode cX2_init 51 = .ok (.iconst 0, 1) := by decide +kernel
theorem dX2_init_52 : decode cX2_init 52 = .ok (.putfield 35, 3) := by decide +kernel
theorem dX2_init_55 : decode cX2_init 55 = .ok (.aload_n 0, 1) := by decide +kernel
theorem dX2_init_56 : decode cX2_init 56 = .ok (.iconst 0, 1) := by decide +kernel
theorem dX2_init_57 : decode cX2_init 57 = .ok (.putfield 38, 3) := by decide +kernel
theorem dX2_init_60 : decode cX2_init 60 = .ok (.aload_n 0, 1) := by decide +kernel
theorem dX2_init_61 : decode cX2_init 61 = .ok (.iconst 0, 1) := by decide +kernel
theorem dX2_init_62 : decode cX2_init 62 = .ok (.putfield 41, 3) := by decide +kernel
theorem dX2_init_65 : decode cX2_init 65 = .ok (.aload_n 0, 1) := by decide +kernel
theorem dX2_init_66 : decode cX2_init 66 = .ok (.iconst 0, 1) := by decide +kernel
theorem dX2_init_67 : decode cX2_init 67 = .ok (.putfield 44, 3) := by decide +kernel
theorem dX2_init_70 : decode cX2_init 70 = .ok (.return_, 1) := by decide +kernel
theorem w_1_172 : (Cond.methodLink RX2 3 objectInit) ∈ wsL_law := sk_mem (ck_1 _ (List.mem_of_getElem? (i := 172) rfl)) rfl
theorem w_1_173 : (Cond.classLink RX2 9 RX0) ∈ wsL_law := sk_mem (ck_1 _ (List.mem_of_getElem? (i := 173) rfl)) rfl
theorem w_1_175 : (Cond.fieldLink RX2 12 "SameKeeper$Lock" "code" "LSameKeeper$Code;") ∈ wsL_law := sk_mem (ck_1 _ (List.mem_of_getElem? (i := 175) rfl)) rfl
theorem w_1_178 : (Cond.fieldLink RX2 18 "SameKeeper$Lock" "barge" "[I") ∈ wsL_law := sk_mem (ck_1 _ (List.mem_of_getElem? (i := 178) rfl)) rfl
theorem w_1_181 : (Cond.fieldLink RX2 22 "SameKeeper$Lock" "wet" "[I") ∈ wsL_law := sk_mem (ck_1 _ (List.mem_of_getElem? (i := 181) rfl)) rfl
theorem w_1_184 : (Cond.fieldLink RX2 25 "SameKeeper$Lock" "from" "[I") ∈ wsL_law := sk_mem (ck_1 _ (List.mem_of_getElem? (i := 184) rfl)) rfl
theorem w_1_186 : (Cond.fieldLink RX2 28 "SameKeeper$Lock" "to" "[I") ∈ wsL_law := sk_mem (ck_1 _ (List.mem_of_getElem? (i := 186) rfl)) rfl
theorem w_1_188 : (Cond.fieldLink RX2 31 "SameKeeper$Lock" "days" "I") ∈ wsL_law := sk_mem (ck_1 _ (List.mem_of_getElem? (i := 188) rfl)) rfl
theorem w_1_191 : (Cond.fieldLink RX2 35 "SameKeeper$Lock" "mood" "I") ∈ wsL_law := sk_mem (ck_1 _ (List.mem_of_getElem? (i := 191) rfl)) rfl
theorem w_1_194 : (Cond.fieldLink RX2 38 "SameKeeper$Lock" "mute" "I") ∈ wsL_law := sk_mem (ck_1 _ (List.mem_of_getElem? (i := 194) rfl)) rfl
theorem w_1_197 : (Cond.fieldLink RX2 41 "SameKeeper$Lock" "rain" "I") ∈ wsL_law := sk_mem (ck_1 _ (List.mem_of_getElem? (i := 197) rfl)) rfl
theorem w_1_200 : (Cond.fieldLink RX2 44 "SameKeeper$Lock" "statements" "I") ∈ wsL_law := sk_mem (ck_1 _ (List.mem_of_getElem? (i := 200) rfl)) rfl
theorem w_1_171 : (Cond.code yX2_init cX2_init 1 none) ∈ wsL_law := sk_mem (ck_1 _ (List.mem_of_getElem? (i := 171) rfl)) rfl
set_option maxHeartbeats 4000000 in
set_option maxRecDepth 100000 in
theorem c_Lock_init (l : Launch) (D : va_G) (cI cJ cC cZ cS : ClassId) (h0 : Nat)  : skM l yX2_init cX2_init 1 none 2 40 9 1713 D (skT cI cJ cC cZ cS) [.ref h0] [(h0, .inr (2, [.null, .null, .null, .null, .null, .int 0, .int 0, .int 0, .int 0, .int 0]))] (skV D (skT cI cJ cC cZ cS) (fun (u : va_W) => ∃ (k1 : Nat), ∃ (k2 : Nat), ∃ (k3 : Nat), ∃ (k4 : Nat), ∃ (k5 : Nat), ∃ (k6 : Nat), ∃ (k7 : Nat), ∃ (k8 : Nat), ∃ (k9 : Nat), u = [(h0, .inr (2, [.ref k1, .ref k2, .ref k3, .ref k4, .ref k5, .int 0, .int 0, .int 0, .int 0, .int 0])), (k1, .inr (0, [.ref k6, .ref k7, .ref k8, .ref k9, .int 0, .int 0])), (k6, .inl (cI, 1600, .inl (fun _ => 0))), (k2, .inl (cI, 9, .inl (fun _ => 0))), (k3, .inl (cI, 9, .inl (fun _ => 0))), (k4, .inl (cI, 3, .inl (fun _ => 0))), (k5, .inl (cI, 3, .inl (fun _ => 0)))])) := by
  refine skM_of (by decide) (Nat.le_of_ble_eq_true rfl) ?_
  intro p e s m below meth c A ls E hP hD hl
  obtain ⟨hx, hb, hr, hml, hlocks, hin, hown, hts, hK, hA⟩ := E
  have hown : s.vm.findClass RX2 = some m.cls := hown
  have hin : meth.name = "<init>" := hin
  have hS : va_S A s.heap s.heap [] := va_S.rf
  have hl : lv_has ls 1 [(0, .ref h0)] := hl
  refine lv_aload_n hx hb dX2_init_0 rfl (lv_at hl 0 rfl) ?_
  refine W.objInit hx hb hown (hts _ w_1_172) (hts _ w_1_28) (hts _ w_1_29) rfl (by rw [hml]; exact hl.1) rfl dX2_init_1 (Nat.le_of_ble_eq_true rfl) (Nat.le_of_ble_eq_true rfl) ?_
  refine W.eq (g2 := F0 m 4 ls []) rfl ?_
  refine lv_aload_n hx hb dX2_init_4 rfl (lv_at hl 0 rfl) ?_
  refine sk_new (ci := 0) (fs := [.null, .null, .null, .null, .int 0, .int 0]) (C := RX0) (T := TX0) (N := 6) (k1 := 1) (n1 := 6) hx hb hts inlX0 tyX0 tyX0_ok hown w_1_173 w_1_124 w_1_8 hK hP hD hS hA rfl (fun j hj => by rcases (show j = 0 ∨ j = 1 ∨ j = 2 ∨ j = 3 ∨ j = 4 ∨ j = 5 by omega) with rfl | rfl | rfl | rfl | rfl | rfl <;> rfl) (Nat.le_of_ble_eq_true rfl) (Nat.le_of_ble_eq_true rfl) (Nat.le_of_ble_eq_true rfl) (Nat.le_of_ble_eq_true rfl) dX2_init_5 (fun q_1 H hP hD hS => ?_)
  have hP : va_P D vwCl [(h0, .inr (2, [.null, .null, .null, .null, .null, .int 0, .int 0, .int 0, .int 0, .int 0])), (q_1, .inr (0, [.null, .null, .null, .null, .int 0, .int 0]))] H := hP
  have hD : va_D A [(h0, .inr (2, [.null, .null, .null, .null, .null, .int 0, .int 0, .int 0, .int 0, .int 0])), (q_1, .inr (0, [.null, .null, .null, .null, .int 0, .int 0]))] := hD
  refine lv_dup hx hb dX2_init_8 rfl ?_
  refine sk_INv (n := 0) (rest := [.ref q_1, .ref h0]) (wr := [(h0, .inr (2, [.null, .null, .null, .null, .null, .int 0, .int 0, .int 0, .int 0, .int 0]))]) ⟨hx, hb, hml, hown, hts⟩ hl.1 (c_Code_init l D cI cJ cC cZ cS q_1) hK.2.2.2.2.2.1 w_1_126 w_1_8 w_1_127 rfl (by decide +kernel) ⟨⟨(Nat.le_of_ble_eq_true rfl), (Nat.le_of_ble_eq_true rfl)⟩, (Nat.le_of_ble_eq_true rfl), (Nat.le_of_ble_eq_true rfl)⟩ hK hP hD hS hA [1] [0] rfl rfl (by decide) (by decide) (by decide) rfl rfl (Nat.le_of_ble_eq_true rfl) dX2_init_9 (fun u H locs hw hP hD hS => ?_)
  obtain ⟨k1_2, k2_3, k3_4, k4_5, rfl⟩ := hw
  have hP : va_P D vwCl [(h0, .inr (2, [.null, .null, .null, .null, .null, .int 0, .int 0, .int 0, .int 0, .int 0])), (q_1, .inr (0, [.ref k1_2, .ref k2_3, .ref k3_4, .ref k4_5, .int 0, .int 0])), (k1_2, .inl (cI, 1600, .inl (fun _ => 0)))] H := hP
  have hD : va_D A [(h0, .inr (2, [.null, .null, .null, .null, .null, .int 0, .int 0, .int 0, .int 0, .int 0])), (q_1, .inr (0, [.ref k1_2, .ref k2_3, .ref k3_4, .ref k4_5, .int 0, .int 0])), (k1_2, .inl (cI, 1600, .inl (fun _ => 0)))] := hD
  refine W.widen (k := 5) (n := 1689) (Nat.le_of_ble_eq_true rfl) (Nat.le_of_ble_eq_true rfl) ?_
  refine sk_putF (ws' := [(h0, .inr (2, [.ref q_1, .null, .null, .null, .null, .int 0, .int 0, .int 0, .int 0, .int 0])), (q_1, .inr (0, [.ref k1_2, .ref k2_3, .ref k3_4, .ref k4_5, .int 0, .int 0])), (k1_2, .inl (cI, 1600, .inl (fun _ => 0)))]) (C := RX2) (T := TX2) (N := 10) (v := .ref q_1) hx hb hts inlX2 tyX2 tyX2_ok nmX2 hown hK hP hD hS 0 rfl rfl 0 (by decide) w_1_175 rfl hin rfl rfl rfl (Nat.le_of_ble_eq_true rfl) rfl dX2_init_12 (fun H locs hP hD hS => ?_)
  refine lv_aload_n hx hb dX2_init_15 rfl (lv_at hl 0 rfl) ?_
  refine lv_bipush (v := 9) hx hb dX2_init_16 (by decide) ?_
  refine sk_newa (atype := .int) (ty := .int) (a0 := (9, .inl (fun _ => 0))) (cA := cI) (k1 := 6) (n1 := 1698) hx hb hts w_1_49 rfl (fun _ _ h => h) 0 rfl hK hP hD hS hA (fun _ => vp_cell_i _ _ _) (by decide) (by decide) (Nat.le_of_ble_eq_true rfl) (Nat.le_of_ble_eq_true rfl) (Nat.le_of_ble_eq_true rfl) (Nat.le_of_ble_eq_true rfl) (Nat.le_of_ble_eq_true rfl) dX2_init_18 (fun q_6 H hP hD hS => ?_)
  have hP : va_P D vwCl [(h0, .inr (2, [.ref q_1, .null, .null, .null, .null, .int 0, .int 0, .int 0, .int 0, .int 0])), (q_1, .inr (0, [.ref k1_2, .ref k2_3, .ref k3_4, .ref k4_5, .int 0, .int 0])), (k1_2, .inl (cI, 1600, .inl (fun _ => 0))), (q_6, .inl (cI, 9, .inl (fun _ => 0)))] H := hP
  have hD : va_D A [(h0, .inr (2, [.ref q_1, .null, .null, .null, .null, .int 0, .int 0, .int 0, .int 0, .int 0])), (q_1, .inr (0, [.ref k1_2, .ref k2_3, .ref k3_4, .ref k4_5, .int 0, .int 0])), (k1_2, .inl (cI, 1600, .inl (fun _ => 0))), (q_6, .inl (cI, 9, .inl (fun _ => 0)))] := hD
  refine sk_putF (ws' := [(h0, .inr (2, [.ref q_1, .ref q_6, .null, .null, .null, .int 0, .int 0, .int 0, .int 0, .int 0])), (q_1, .inr (0, [.ref k1_2, .ref k2_3, .ref k3_4, .ref k4_5, .int 0, .int 0])), (k1_2, .inl (cI, 1600, .inl (fun _ => 0))), (q_6, .inl (cI, 9, .inl (fun _ => 0)))]) (C := RX2) (T := TX2) (N := 10) (v := .ref q_6) hx hb hts inlX2 tyX2 tyX2_ok nmX2 hown hK hP hD hS 0 rfl rfl 1 (by decide) w_1_178 rfl hin rfl rfl rfl (Nat.le_of_ble_eq_true rfl) rfl dX2_init_20 (fun H locs hP hD hS => ?_)
  refine lv_aload_n hx hb dX2_init_23 rfl (lv_at hl 0 rfl) ?_
  refine lv_bipush (v := 9) hx hb dX2_init_24 (by decide) ?_
  refine sk_newa (atype := .int) (ty := .int) (a0 := (9, .inl (fun _ => 0))) (cA := cI) (k1 := 7) (n1 := 1707) hx hb hts w_1_49 rfl (fun _ _ h => h) 0 rfl hK hP hD hS hA (fun _ => vp_cell_i _ _ _) (by decide) (by decide) (Nat.le_of_ble_eq_true rfl) (Nat.le_of_ble_eq_true rfl) (Nat.le_of_ble_eq_true rfl) (Nat.le_of_ble_eq_true rfl) (Nat.le_of_ble_eq_true rfl) dX2_init_26 (fun q_7 H hP hD hS => ?_)
  have hP : va_P D vwCl [(h0, .inr (2, [.ref q_1, .ref q_6, .null, .null, .null, .int 0, .int 0, .int 0, .int 0, .int 0])), (q_1, .inr (0, [.ref k1_2, .ref k2_3, .ref k3_4, .ref k4_5, .int 0, .int 0])), (k1_2, .inl (cI, 1600, .inl (fun _ => 0))), (q_6, .inl (cI, 9, .inl (fun _ => 0))), (q_7, .inl (cI, 9, .inl (fun _ => 0)))] H := hP
  have hD : va_D A [(h0, .inr (2, [.ref q_1, .ref q_6, .null, .null, .null, .int 0, .int 0, .int 0, .int 0, .int 0])), (q_1, .inr (0, [.ref k1_2, .ref k2_3, .ref k3_4, .ref k4_5, .int 0, .int 0])), (k1_2, .inl (cI, 1600, .inl (fun _ => 0))), (q_6, .inl (cI, 9, .inl (fun _ => 0))), (q_7, .inl (cI, 9, .inl (fun _ => 0)))] := hD
  refine sk_putF (ws' := [(h0, .inr (2, [.ref q_1, .ref q_6, .ref q_7, .null, .null, .int 0, .int 0, .int 0, .int 0, .int 0])), (q_1, .inr (0, [.ref k1_2, .ref k2_3, .ref k3_4, .ref k4_5, .int 0, .int 0])), (k1_2, .inl (cI, 1600, .inl (fun _ => 0))), (q_6, .inl (cI, 9, .inl (fun _ => 0))), (q_7, .inl (cI, 9, .inl (fun _ => 0)))]) (C := RX2) (T := TX2) (N := 10) (v := .ref q_7) hx hb hts inlX2 tyX2 tyX2_ok nmX2 hown hK hP hD hS 0 rfl rfl 2 (by decide) w_1_181 rfl hin rfl rfl rfl (Nat.le_of_ble_eq_true rfl) rfl dX2_init_28 (fun H locs hP hD hS => ?_)
  refine lv_aload_n hx hb dX2_init_31 rfl (lv_at hl 0 rfl) ?_
  refine lv_iconst (v := 3) hx hb dX2_init_32 (by decide) ?_
  refine sk_newa (atype := .int) (ty := .int) (a0 := (3, .inl (fun _ => 0))) (cA := cI) (k1 := 8) (n1 := 1710) hx hb hts w_1_49 rfl (fun _ _ h => h) 0 rfl hK hP hD hS hA (fun _ => vp_cell_i _ _ _) (by decide) (by decide) (Nat.le_of_ble_eq_true rfl) (Nat.le_of_ble_eq_true rfl) (Nat.le_of_ble_eq_true rfl) (Nat.le_of_ble_eq_true rfl) (Nat.le_of_ble_eq_true rfl) dX2_init_33 (fun q_8 H hP hD hS => ?_)
  have hP : va_P D vwCl [(h0, .inr (2, [.ref q_1, .ref q_6, .ref q_7, .null, .null, .int 0, .int 0, .int 0, .int 0, .int 0])), (q_1, .inr (0, [.ref k1_2, .ref k2_3, .ref k3_4, .ref k4_5, .int 0, .int 0])), (k1_2, .inl (cI, 1600, .inl (fun _ => 0))), (q_6, .inl (cI, 9, .inl (fun _ => 0))), (q_7, .inl (cI, 9, .inl (fun _ => 0))), (q_8, .inl (cI, 3, .inl (fun _ => 0)))] H := hP
  have hD : va_D A [(h0, .inr (2, [.ref q_1, .ref q_6, .ref q_7, .null, .null, .int 0, .int 0, .int 0, .int 0, .int 0])), (q_1, .inr (0, [.ref k1_2, .ref k2_3, .ref k3_4, .ref k4_5, .int 0, .int 0])), (k1_2, .inl (cI, 1600, .inl (fun _ => 0))), (q_6, .inl (cI, 9, .inl (fun _ => 0))), (q_7, .inl (cI, 9, .inl (fun _ => 0))), (q_8, .inl (cI, 3, .inl (fun _ => 0)))] := hD
  refine sk_putF (ws' := [(h0, .inr (2, [.ref q_1, .ref q_6, .ref q_7, .ref q_8, .null, .int 0, .int 0, .int 0, .int 0, .int 0])), (q_1, .inr (0, [.ref k1_2, .ref k2_3, .ref k3_4, .ref k4_5, .int 0, .int 0])), (k1_2, .inl (cI, 1600, .inl (fun _ => 0))), (q_6, .inl (cI, 9, .inl (fun _ => 0))), (q_7, .inl (cI, 9, .inl (fun _ => 0))), (q_8, .inl (cI, 3, .inl (fun _ => 0)))]) (C := RX2) (T := TX2) (N := 10) (v := .ref q_8) hx hb hts inlX2 tyX2 tyX2_ok nmX2 hown hK hP hD hS 0 rfl rfl 3 (by decide) w_1_184 rfl hin rfl rfl rfl (Nat.le_of_ble_eq_true rfl) rfl dX2_init_35 (fun H locs hP hD hS => ?_)
  refine lv_aload_n hx hb dX2_init_38 rfl (lv_at hl 0 rfl) ?_
  refine lv_iconst (v := 3) hx hb dX2_init_39 (by decide) ?_
  refine sk_newa (atype := .int) (ty := .int) (a0 := (3, .inl (fun _ => 0))) (cA := cI) (k1 := 9) (n1 := 1713) hx hb hts w_1_49 rfl (fun _ _ h => h) 0 rfl hK hP hD hS hA (fun _ => vp_cell_i _ _ _) (by decide) (by decide) (Nat.le_of_ble_eq_true rfl) (Nat.le_of_ble_eq_true rfl) (Nat.le_of_ble_eq_true rfl) (Nat.le_of_ble_eq_true rfl) (Nat.le_of_ble_eq_true rfl) dX2_init_40 (fun q_9 H hP hD hS => ?_)
  have hP : va_P D vwCl [(h0, .inr (2, [.ref q_1, .ref q_6, .ref q_7, .ref q_8, .null, .int 0, .int 0, .int 0, .int 0, .int 0])), (q_1, .inr (0, [.ref k1_2, .ref k2_3, .ref k3_4, .ref k4_5, .int 0, .int 0])), (k1_2, .inl (cI, 1600, .inl (fun _ => 0))), (q_6, .inl (cI, 9, .inl (fun _ => 0))), (q_7, .inl (cI, 9, .inl (fun _ => 0))), (q_8, .inl (cI, 3, .inl (fun _ => 0))), (q_9, .inl (cI, 3, .inl (fun _ => 0)))] H := hP
  have hD : va_D A [(h0, .inr (2, [.ref q_1, .ref q_6, .ref q_7, .ref q_8, .null, .int 0, .int 0, .int 0, .int 0, .int 0])), (q_1, .inr (0, [.ref k1_2, .ref k2_3, .ref k3_4, .ref k4_5, .int 0, .int 0])), (k1_2, .inl (cI, 1600, .inl (fun _ => 0))), (q_6, .inl (cI, 9, .inl (fun _ => 0))), (q_7, .inl (cI, 9, .inl (fun _ => 0))), (q_8, .inl (cI, 3, .inl (fun _ => 0))), (q_9, .inl (cI, 3, .inl (fun _ => 0)))] := hD
  refine sk_putF (ws' := [(h0, .inr (2, [.ref q_1, .ref q_6, .ref q_7, .ref q_8, .ref q_9, .int 0, .int 0, .int 0, .int 0, .int 0])), (q_1, .inr (0, [.ref k1_2, .ref k2_3, .ref k3_4, .ref k4_5, .int 0, .int 0])), (k1_2, .inl (cI, 1600, .inl (fun _ => 0))), (q_6, .inl (cI, 9, .inl (fun _ => 0))), (q_7, .inl (cI, 9, .inl (fun _ => 0))), (q_8, .inl (cI, 3, .inl (fun _ => 0))), (q_9, .inl (cI, 3, .inl (fun _ => 0)))]) (C := RX2) (T := TX2) (N := 10) (v := .ref q_9) hx hb hts inlX2 tyX2 tyX2_ok nmX2 hown hK hP hD hS 0 rfl rfl 4 (by decide) w_1_186 rfl hin rfl rfl rfl (Nat.le_of_ble_eq_true rfl) rfl dX2_init_42 (fun H locs hP hD hS => ?_)
  refine lv_aload_n hx hb dX2_init_45 rfl (lv_at hl 0 rfl) ?_
  refine lv_iconst (v := 0) hx hb dX2_init_46 (by decide) ?_
  refine sk_put (ws' := [(h0, .inr (2, [.ref q_1, .ref q_6, .ref q_7, .ref q_8, .ref q_9, .int 0, .int 0, .int 0, .int 0, .int 0])), (q_1, .inr (0, [.ref k1_2, .ref k2_3, .ref k3_4, .ref k4_5, .int 0, .int 0])), (k1_2, .inl (cI, 1600, .inl (fun _ => 0))), (q_6, .inl (cI, 9, .inl (fun _ => 0))), (q_7, .inl (cI, 9, .inl (fun _ => 0))), (q_8, .inl (cI, 3, .inl (fun _ => 0))), (q_9, .inl (cI, 3, .inl (fun _ => 0)))]) (C := RX2) (T := TX2) (N := 10) (v := .int 0) hx hb hts inlX2 tyX2 tyX2_ok nmX2 hown hK hP hD hS 0 rfl rfl 5 (by decide) w_1_188 rfl rfl rfl (Nat.le_of_ble_eq_true rfl) rfl dX2_init_47 (fun H locs hP hD hS => ?_)
  refine lv_aload_n hx hb dX2_init_50 rfl (lv_at hl 0 rfl) ?_
  refine lv_iconst (v := 0) hx hb dX2_init_51 (by decide) ?_
  refine sk_put (ws' := [(h0, .inr (2, [.ref q_1, .ref q_6, .ref q_7, .ref q_8, .ref q_9, .int 0, .int 0, .int 0, .int 0, .int 0])), (q_1, .inr (0, [.ref k1_2, .ref k2_3, .ref k3_4, .ref k4_5, .int 0, .int 0])), (k1_2, .inl (cI, 1600, .inl (fun _ => 0))), (q_6, .inl (cI, 9, .inl (fun _ => 0))), (q_7, .inl (cI, 9, .inl (fun _ => 0))), (q_8, .inl (cI, 3, .inl (fun _ => 0))), (q_9, .inl (cI, 3, .inl (fun _ => 0)))]) (C := RX2) (T := TX2) (N := 10) (v := .int 0) hx hb hts inlX2 tyX2 tyX2_ok nmX2 hown hK hP hD hS 0 rfl rfl 6 (by decide) w_1_191 rfl rfl rfl (Nat.le_of_ble_eq_true rfl) rfl dX2_init_52 (fun H locs hP hD hS => ?_)
  refine lv_aload_n hx hb dX2_init_55 rfl (lv_at hl 0 rfl) ?_
  refine lv_iconst (v := 0) hx hb dX2_init_56 (by decide) ?_
  refine sk_put (ws' := [(h0, .inr (2, [.ref q_1, .ref q_6, .ref q_7, .ref q_8, .ref q_9, .int 0, .int 0, .int 0, .int 0, .int 0])), (q_1, .inr (0, [.ref k1_2, .ref k2_3, .ref k3_4, .ref k4_5, .int 0, .int 0])), (k1_2, .inl (cI, 1600, .inl (fun _ => 0))), (q_6, .inl (cI, 9, .inl (fun _ => 0))), (q_7, .inl (cI, 9, .inl (fun _ => 0))), (q_8, .inl (cI, 3, .inl (fun _ => 0))), (q_9, .inl (cI, 3, .inl (fun _ => 0)))]) (C := RX2) (T := TX2) (N := 10) (v := .int 0) hx hb hts inlX2 tyX2 tyX2_ok nmX2 hown hK hP hD hS 0 rfl rfl 7 (by decide) w_1_194 rfl rfl rfl (Nat.le_of_ble_eq_true rfl) rfl dX2_init_57 (fun H locs hP hD hS => ?_)
  refine lv_aload_n hx hb dX2_init_60 rfl (lv_at hl 0 rfl) ?_
  refine lv_iconst (v := 0) hx hb dX2_init_61 (by decide) ?_
  refine sk_put (ws' := [(h0, .inr (2, [.ref q_1, .ref q_6, .ref q_7, .ref q_8, .ref q_9, .int 0, .int 0, .int 0, .int 0, .int 0])), (q_1, .inr (0, [.ref k1_2, .ref k2_3, .ref k3_4, .ref k4_5, .int 0, .int 0])), (k1_2, .inl (cI, 1600, .inl (fun _ => 0))), (q_6, .inl (cI, 9, .inl (fun _ => 0))), (q_7, .inl (cI, 9, .inl (fun _ => 0))), (q_8, .inl (cI, 3, .inl (fun _ => 0))), (q_9, .inl (cI, 3, .inl (fun _ => 0)))]) (C := RX2) (T := TX2) (N := 10) (v := .int 0) hx hb hts inlX2 tyX2 tyX2_ok nmX2 hown hK hP hD hS 0 rfl rfl 8 (by decide) w_1_197 rfl rfl rfl (Nat.le_of_ble_eq_true rfl) rfl dX2_init_62 (fun H locs hP hD hS => ?_)
  refine lv_aload_n hx hb dX2_init_65 rfl (lv_at hl 0 rfl) ?_
  refine lv_iconst (v := 0) hx hb dX2_init_66 (by decide) ?_
  refine sk_put (ws' := [(h0, .inr (2, [.ref q_1, .ref q_6, .ref q_7, .ref q_8, .ref q_9, .int 0, .int 0, .int 0, .int 0, .int 0])), (q_1, .inr (0, [.ref k1_2, .ref k2_3, .ref k3_4, .ref k4_5, .int 0, .int 0])), (k1_2, .inl (cI, 1600, .inl (fun _ => 0))), (q_6, .inl (cI, 9, .inl (fun _ => 0))), (q_7, .inl (cI, 9, .inl (fun _ => 0))), (q_8, .inl (cI, 3, .inl (fun _ => 0))), (q_9, .inl (cI, 3, .inl (fun _ => 0)))]) (C := RX2) (T := TX2) (N := 10) (v := .int 0) hx hb hts inlX2 tyX2 tyX2_ok nmX2 hown hK hP hD hS 0 rfl rfl 9 (by decide) w_1_200 rfl rfl rfl (Nat.le_of_ble_eq_true rfl) rfl dX2_init_67 (fun H locs hP hD hS => ?_)
  exact sk_vret hx hb hr hlocks hK hP hD hS (⟨q_1, q_6, q_7, q_8, q_9, k1_2, k2_3, k3_4, k4_5, rfl⟩) (Nat.le_of_ble_eq_true rfl) (Nat.le_of_ble_eq_true rfl) dX2_init_70
end
section
theorem dX4_init_0 : decode cX4_init 0 = .ok (.aload_n 0, 1) := by decide +kernel
theorem dX4_init_1 : decode cX4_init 1 = .ok (.invokespecial 3, 3) := by decide +kernel
theorem dX4_init_4 : decode cX4_init 4 = .ok (.aload_n 0, 1) := by decide +kernel
theorem dX4_init_5 : decode cX4_init 5 = .ok (.bipush 20, 2) := by decide +kernel
theorem dX4_init_7 : decode cX4_init 7 = .ok (.anewarray 11, 3) := by decide +kernel
theorem dX4_init_10 : decode cX4_init 10 = .ok (.putfield 13, 3) := by decide +kernel
theorem dX4_init_13 : decode cX4_init 13 = .ok (.aload_n 0, 1) := by decide +kernel
theorem dX4_init_14 : decode cX4_init 14 = .ok (.iconst 0, 1) := by decide +kernel
theorem dX4_init_15 : decode cX4_init 15 = .ok (.putfield 17, 3) := by decide +kernel
theorem dX4_init_18 : decode cX4_init 18 = .ok (.aload_n 0, 1) := by decide +kernel
theorem dX4_init_19 : decode cX4_init 19 = .ok (.sipush 1000, 3) := by decide +kernel
theorem dX4_init_22 : decode cX4_init 22 = .ok (.newarray .int, 2) := by decide +kernel
theorem dX4_init_24 : decode cX4_init 24 = .ok (.putfield 21, 3) := by decide +kernel
theorem dX4_init_27 : decode cX4_init 27 = .ok (.aload_n 0, 1) := by decide +kernel
theorem dX4_init_28 : decode cX4_init 28 = .ok (.sipush 1000, 3) := by decide +kernel
theorem dX4_init_31 : decode cX4_init 31 = .ok (.newarray .long, 2) := by decide +kernel
theorem dX4_init_33 : decode cX4_init 33 = .ok (.putfield 25, 3) := by decide +kernel
theorem dX4_init_36 : decode cX4_init 36 = .ok (.aload_n 0, 1) := by decide +kernel
theorem dX4_init_37 : decode cX4_init 37 = .ok (.sipush 1000, 3) := by decide +kernel
theorem dX4_init_40 : decode cX4_init 40 = .ok (.newarray .int, 2) := by decide +kernel
theorem dX4_init_42 : decode cX4_init 42 = .ok (.putfield 29, 3) := by decide +kernel
theorem dX4_init_45 : decode cX4_init 45 = .ok (.iconst 0, 1) := by decide +kernel
theorem dX4_init_46 : decode cX4_init 46 = .ok (.istore_n 1, 1) := by decide +kernel
theorem dX4_init_47 : decode cX4_init 47 = .ok (.iload_n 1, 1) := by decide +kernel
theorem dX4_init_48 : decode cX4_init 48 = .ok (.bipush 20, 2) := by decide +kernel
theorem dX4_init_50 : decode cX4_init 50 = .ok (.if_icmp .ge 22, 3) := by decide +kernel
theorem dX4_init_53 : decode cX4_init 53 = .ok (.aload_n 0, 1) := by decide +kernel
theorem dX4_init_54 : decode cX4_init 54 = .ok (.getfield 13, 3) := by decide +kernel
theorem dX4_init_57 : decode cX4_init 57 = .ok (.iload_n 1, 1) := by decide +kernel
theorem dX4_init_58 : decode cX4_init 58 = .ok (.new 11, 3) := by decide +kernel
theorem dX4_init_61 : decode cX4_init 61 = .ok (.dup, 1) := by decide +kernel
theorem dX4_init_62 : decode cX4_init 62 = .ok (.invokespecial 32, 3) := by decide +kernel
theorem dX4_init_65 : decode cX4_init 65 = .ok (.aastore, 1) := by decide +kernel
theorem dX4_init_66 : decode cX4_init 66 = .ok (.iinc 1 1, 3) := by decide +kernel
theorem dX4_init_69 : decode cX4_init 69 = .ok (.goto (-22), 3) := by decide +kernel
theorem dX4_init_72 : decode cX4_init 72 = .ok (.return_, 1) := by decide +kernel
theorem w_2_36 : (Cond.methodLink RX4 3 objectInit) ∈ wsL_law := sk_mem (ck_2 _ (List.mem_of_getElem? (i := 36) rfl)) rfl
theorem w_2_37 : (Cond.classLink RX4 11 RX7) ∈ wsL_law := sk_mem (ck_2 _ (List.mem_of_getElem? (i := 37) rfl)) rfl
theorem w_2_40 : (Cond.fieldLink RX4 13 "SameKeeper$Past" "states" "[LSameKeeper$State;") ∈ wsL_law := sk_mem (ck_2 _ (List.mem_of_getElem? (i := 40) rfl)) rfl
theorem w_2_41 : (Cond.fieldLink RX4 17 "SameKeeper$Past" "acts" "I") ∈ wsL_law := sk_mem (ck_2 _ (List.mem_of_getElem? (i := 41) rfl)) rfl
theorem w_2_43 : (Cond.fieldLink RX4 21 "SameKeeper$Past" "weekOf" "[I") ∈ wsL_law := sk_mem (ck_2 _ (List.mem_of_getElem? (i := 43) rfl)) rfl
theorem w_2_44 : (Cond.fieldLink RX4 25 "SameKeeper$Past" "agreedOf" "[J") ∈ wsL_law := sk_mem (ck_2 _ (List.mem_of_getElem? (i := 44) rfl)) rfl
theorem w_2_45 : (Cond.fieldLink RX4 29 "SameKeeper$Past" "moodOf" "[I") ∈ wsL_law := sk_mem (ck_2 _ (List.mem_of_getElem? (i := 45) rfl)) rfl
theorem w_1_225 : (Cond.instantiable RX7 7) ∈ wsL_law := sk_mem (ck_1 _ (List.mem_of_getElem? (i := 225) rfl)) rfl
theorem w_1_10 : (Cond.initialized RX7) ∈ wsL_law := sk_mem (ck_1 _ (List.mem_of_getElem? (i := 10) rfl)) rfl
theorem w_1_227 : (Cond.instanceMethod yX7_init) ∈ wsL_law := sk_mem (ck_1 _ (List.mem_of_getElem? (i := 227) rfl)) rfl
theorem w_2_35 : (Cond.code yX4_init cX4_init 2 none) ∈ wsL_law := sk_mem (ck_2 _ (List.mem_of_getElem? (i := 35) rfl)) rfl
set_option maxHeartbeats 4000000 in
set_option maxRecDepth 100000 in
theorem c_Past_init (l : Launch) (D : va_G) (cI cJ cC cZ cS : ClassId) (h0 : Nat)  : skM l yX4_init cX4_init 2 none 2 40 64 3520 D (skT cI cJ cC cZ cS) [.ref h0] [(h0, .inr (4, [.null, .int 0, .null, .null, .null]))] (skV D (skT cI cJ cC cZ cS) (fun (u : va_W) => ∃ (k1 : Nat), ∃ (k2 : Nat), ∃ (k3 : Nat), ∃ (k4 : Nat), u = [(h0, .inr (4, [.ref k1, .int 0, .ref k2, .ref k3, .ref k4]))])) := by
  refine skM_of (by decide) (Nat.le_of_ble_eq_true rfl) ?_
  intro p e s m below meth c A ls E hP hD hl
  obtain ⟨hx, hb, hr, hml, hlocks, hin, hown, hts, hK, hA⟩ := E
  have hown : s.vm.findClass RX4 = some m.cls := hown
  have hin : meth.name = "<init>" := hin
  have hS : va_S A s.heap s.heap [] := va_S.rf
  have hl : lv_has ls 2 [(0, .ref h0)] := hl
  refine lv_aload_n hx hb dX4_init_0 rfl (lv_at hl 0 rfl) ?_
  refine W.objInit hx hb hown (hts _ w_2_36) (hts _ w_1_28) (hts _ w_1_29) rfl (by rw [hml]; exact hl.1) rfl dX4_init_1 (Nat.le_of_ble_eq_true rfl) (Nat.le_of_ble_eq_true rfl) ?_
  refine W.eq (g2 := F0 m 4 ls []) rfl ?_
  refine lv_aload_n hx hb dX4_init_4 rfl (lv_at hl 0 rfl) ?_
  refine lv_bipush (v := 20) hx hb dX4_init_5 (by decide) ?_
  refine sk_newq (cA := cS) (k1 := 1) (n1 := 20) (N' := 20) hx hb hts hown w_2_37 4 rfl hK hP hD hS hA (by decide) (by decide) (Nat.le_of_ble_eq_true rfl) (Nat.le_of_ble_eq_true rfl) (Nat.le_of_ble_eq_true rfl) (Nat.le_of_ble_eq_true rfl) (Nat.le_of_ble_eq_true rfl) dX4_init_7 (fun q_1 H hP hD hS => ?_)
  have hP : va_P D vwCl [(h0, .inr (4, [.null, .int 0, .null, .null, .null])), (q_1, .inl (cS, 20, .inr (.inr (.inr (.inr (fun _ => none))))))] H := hP
  have hD : va_D A [(h0, .inr (4, [.null, .int 0, .null, .null, .null])), (q_1, .inl (cS, 20, .inr (.inr (.inr (.inr (fun _ => none))))))] := hD
  refine sk_putF (ws' := [(h0, .inr (4, [.ref q_1, .int 0, .null, .null, .null])), (q_1, .inl (cS, 20, .inr (.inr (.inr (.inr (fun _ => none))))))]) (C := RX4) (T := TX4) (N := 5) (v := .ref q_1) hx hb hts inlX4 tyX4 tyX4_ok nmX4 hown hK hP hD hS 0 rfl rfl 0 (by decide) w_2_40 rfl hin rfl rfl rfl (Nat.le_of_ble_eq_true rfl) rfl dX4_init_10 (fun H locs hP hD hS => ?_)
  refine lv_aload_n hx hb dX4_init_13 rfl (lv_at hl 0 rfl) ?_
  refine lv_iconst (v := 0) hx hb dX4_init_14 (by decide) ?_
  refine sk_put (ws' := [(h0, .inr (4, [.ref q_1, .int 0, .null, .null, .null])), (q_1, .inl (cS, 20, .inr (.inr (.inr (.inr (fun _ => none))))))]) (C := RX4) (T := TX4) (N := 5) (v := .int 0) hx hb hts inlX4 tyX4 tyX4_ok nmX4 hown hK hP hD hS 0 rfl rfl 1 (by decide) w_2_41 rfl rfl rfl (Nat.le_of_ble_eq_true rfl) rfl dX4_init_15 (fun H locs hP hD hS => ?_)
  refine lv_aload_n hx hb dX4_init_18 rfl (lv_at hl 0 rfl) ?_
  refine lv_sipush (v := 1000) hx hb dX4_init_19 (by decide) ?_
  refine sk_newa (atype := .int) (ty := .int) (a0 := (1000, .inl (fun _ => 0))) (cA := cI) (k1 := 2) (n1 := 1020) hx hb hts w_1_49 rfl (fun _ _ h => h) 0 rfl hK hP hD hS hA (fun _ => vp_cell_i _ _ _) (by decide) (by decide) (Nat.le_of_ble_eq_true rfl) (Nat.le_of_ble_eq_true rfl) (Nat.le_of_ble_eq_true rfl) (Nat.le_of_ble_eq_true rfl) (Nat.le_of_ble_eq_true rfl) dX4_init_22 (fun q_2 H hP hD hS => ?_)
  have hP : va_P D vwCl [(h0, .inr (4, [.ref q_1, .int 0, .null, .null, .null])), (q_1, .inl (cS, 20, .inr (.inr (.inr (.inr (fun _ => none)))))), (q_2, .inl (cI, 1000, .inl (fun _ => 0)))] H := hP
  have hD : va_D A [(h0, .inr (4, [.ref q_1, .int 0, .null, .null, .null])), (q_1, .inl (cS, 20, .inr (.inr (.inr (.inr (fun _ => none)))))), (q_2, .inl (cI, 1000, .inl (fun _ => 0)))] := hD
  refine sk_putF (ws' := [(h0, .inr (4, [.ref q_1, .int 0, .ref q_2, .null, .null])), (q_1, .inl (cS, 20, .inr (.inr (.inr (.inr (fun _ => none)))))), (q_2, .inl (cI, 1000, .inl (fun _ => 0)))]) (C := RX4) (T := TX4) (N := 5) (v := .ref q_2) hx hb hts inlX4 tyX4 tyX4_ok nmX4 hown hK hP hD hS 0 rfl rfl 2 (by decide) w_2_43 rfl hin rfl rfl rfl (Nat.le_of_ble_eq_true rfl) rfl dX4_init_24 (fun H locs hP hD hS => ?_)
  refine lv_aload_n hx hb dX4_init_27 rfl (lv_at hl 0 rfl) ?_
  refine lv_sipush (v := 1000) hx hb dX4_init_28 (by decide) ?_
  refine sk_newa (atype := .long) (ty := .long) (a0 := (1000, .inr (.inl (fun _ => 0)))) (cA := cJ) (k1 := 3) (n1 := 2020) hx hb hts w_1_151 rfl (fun _ _ h => h) 1 rfl hK hP hD hS hA (fun _ => vp_cell_l _ _ _) (by decide) (by decide) (Nat.le_of_ble_eq_true rfl) (Nat.le_of_ble_eq_true rfl) (Nat.le_of_ble_eq_true rfl) (Nat.le_of_ble_eq_true rfl) (Nat.le_of_ble_eq_true rfl) dX4_init_31 (fun q_3 H hP hD hS => ?_)
  have hP : va_P D vwCl [(h0, .inr (4, [.ref q_1, .int 0, .ref q_2, .null, .null])), (q_1, .inl (cS, 20, .inr (.inr (.inr (.inr (fun _ => none)))))), (q_2, .inl (cI, 1000, .inl (fun _ => 0))), (q_3, .inl (cJ, 1000, .inr (.inl (fun _ => 0))))] H := hP
  have hD : va_D A [(h0, .inr (4, [.ref q_1, .int 0, .ref q_2, .null, .null])), (q_1, .inl (cS, 20, .inr (.inr (.inr (.inr (fun _ => none)))))), (q_2, .inl (cI, 1000, .inl (fun _ => 0))), (q_3, .inl (cJ, 1000, .inr (.inl (fun _ => 0))))] := hD
  refine sk_putF (ws' := [(h0, .inr (4, [.ref q_1, .int 0, .ref q_2, .ref q_3, .null])), (q_1, .inl (cS, 20, .inr (.inr (.inr (.inr (fun _ => none)))))), (q_2, .inl (cI, 1000, .inl (fun _ => 0))), (q_3, .inl (cJ, 1000, .inr (.inl (fun _ => 0))))]) (C := RX4) (T := TX4) (N := 5) (v := .ref q_3) hx hb hts inlX4 tyX4 tyX4_ok nmX4 hown hK hP hD hS 0 rfl rfl 3 (by decide) w_2_44 rfl hin rfl rfl rfl (Nat.le_of_ble_eq_true rfl) rfl dX4_init_33 (fun H locs hP hD hS => ?_)
  refine lv_aload_n hx hb dX4_init_36 rfl (lv_at hl 0 rfl) ?_
  refine lv_sipush (v := 1000) hx hb dX4_init_37 (by decide) ?_
  refine sk_newa (atype := .int) (ty := .int) (a0 := (1000, .inl (fun _ => 0))) (cA := cI) (k1 := 4) (n1 := 3020) hx hb hts w_1_49 rfl (fun _ _ h => h) 0 rfl hK hP hD hS hA (fun _ => vp_cell_i _ _ _) (by decide) (by decide) (Nat.le_of_ble_eq_true rfl) (Nat.le_of_ble_eq_true rfl) (Nat.le_of_ble_eq_true rfl) (Nat.le_of_ble_eq_true rfl) (Nat.le_of_ble_eq_true rfl) dX4_init_40 (fun q_4 H hP hD hS => ?_)
  have hP : va_P D vwCl [(h0, .inr (4, [.ref q_1, .int 0, .ref q_2, .ref q_3, .null])), (q_1, .inl (cS, 20, .inr (.inr (.inr (.inr (fun _ => none)))))), (q_2, .inl (cI, 1000, .inl (fun _ => 0))), (q_3, .inl (cJ, 1000, .inr (.inl (fun _ => 0)))), (q_4, .inl (cI, 1000, .inl (fun _ => 0)))] H := hP
  have hD : va_D A [(h0, .inr (4, [.ref q_1, .int 0, .ref q_2, .ref q_3, .null])), (q_1, .inl (cS, 20, .inr (.inr (.inr (.inr (fun _ => none)))))), (q_2, .inl (cI, 1000, .inl (fun _ => 0))), (q_3, .inl (cJ, 1000, .inr (.inl (fun _ => 0)))), (q_4, .inl (cI, 1000, .inl (fun _ => 0)))] := hD
  refine sk_putF (ws' := [(h0, .inr (4, [.ref q_1, .int 0, .ref q_2, .ref q_3, .ref q_4])), (q_1, .inl (cS, 20, .inr (.inr (.inr (.inr (fun _ => none)))))), (q_2, .inl (cI, 1000, .inl (fun _ => 0))), (q_3, .inl (cJ, 1000, .inr (.inl (fun _ => 0)))), (q_4, .inl (cI, 1000, .inl (fun _ => 0)))]) (C := RX4) (T := TX4) (N := 5) (v := .ref q_4) hx hb hts inlX4 tyX4 tyX4_ok nmX4 hown hK hP hD hS 0 rfl rfl 4 (by decide) w_2_45 rfl hin rfl rfl rfl (Nat.le_of_ble_eq_true rfl) rfl dX4_init_42 (fun H locs hP hD hS => ?_)
  refine lv_iconst (v := 0) hx hb dX4_init_45 (by decide) ?_
  refine lv_istore_n (lv' := [(1, .int 0), (0, .ref h0)]) hx hb dX4_init_46 rfl hl (by decide) rfl (fun ls hl => ?_)
  have hP := hP.sub (ws' := [(h0, .inr (4, [.ref q_1, .int 0, .ref q_2, .ref q_3, .ref q_4])), (q_1, .inl (cS, 20, .inr (.inr (.inr (.inr (fun _ => none))))))]) [0, 1] rfl
  have hD := hD.sub (ws' := [(h0, .inr (4, [.ref q_1, .int 0, .ref q_2, .ref q_3, .ref q_4])), (q_1, .inl (cS, 20, .inr (.inr (.inr (.inr (fun _ => none))))))]) [0, 1] (by decide) rfl
  refine lv_iload_n hx hb dX4_init_47 rfl (lv_at hl 0 rfl) ?_
  refine lv_bipush (v := 20) hx hb dX4_init_48 (by decide) ?_
  refine lv_icmp_ge (tgt := 72) hx hb dX4_init_50 (by decide) (fun c => absurd c (by decide)) (fun c_5 => ?_)
  refine lv_aload_n hx hb dX4_init_53 rfl (lv_at hl 1 rfl) ?_
  refine sk_get (v := .ref q_1) (C := RX4) (T := TX4) (N := 5) hx hb hts inlX4 hown hK hP 0 rfl rfl 0 (by decide) w_2_40 rfl dX4_init_54 ?_
  refine lv_iload_n hx hb dX4_init_57 rfl (lv_at hl 0 rfl) ?_
  refine sk_new (ci := 7) (fs := [.null, .null, .int 0, .int 0, .int 0, .int 0, .int 0]) (C := RX7) (T := TX7) (N := 7) (k1 := 5) (n1 := 3027) hx hb hts inlX7 tyX7 tyX7_ok hown w_2_37 w_1_225 w_1_10 hK hP hD hS hA rfl (fun j hj => by rcases (show j = 0 ∨ j = 1 ∨ j = 2 ∨ j = 3 ∨ j = 4 ∨ j = 5 ∨ j = 6 by omega) with rfl | rfl | rfl | rfl | rfl | rfl | rfl <;> rfl) (Nat.le_of_ble_eq_true rfl) (Nat.le_of_ble_eq_true rfl) (Nat.le_of_ble_eq_true rfl) (Nat.le_of_ble_eq_true rfl) dX4_init_58 (fun q_6 H hP hD hS => ?_)
  have hP : va_P D vwCl [(h0, .inr (4, [.ref q_1, .int 0, .ref q_2, .ref q_3, .ref q_4])), (q_1, .inl (cS, 20, .inr (.inr (.inr (.inr (fun _ => none)))))), (q_6, .inr (7, [.null, .null, .int 0, .int 0, .int 0, .int 0, .int 0]))] H := hP
  have hD : va_D A [(h0, .inr (4, [.ref q_1, .int 0, .ref q_2, .ref q_3, .ref q_4])), (q_1, .inl (cS, 20, .inr (.inr (.inr (.inr (fun _ => none)))))), (q_6, .inr (7, [.null, .null, .int 0, .int 0, .int 0, .int 0, .int 0]))] := hD
  refine lv_dup hx hb dX4_init_61 rfl ?_
  refine sk_INv (n := 0) (rest := [.ref q_6, .int 0, .ref q_1]) (wr := [(h0, .inr (4, [.ref q_1, .int 0, .ref q_2, .ref q_3, .ref q_4])), (q_1, .inl (cS, 20, .inr (.inr (.inr (.inr (fun _ => none))))))]) ⟨hx, hb, hml, hown, hts⟩ hl.1 (c_State_init l D cI cJ cC cZ cS q_6) hK.2.2.2.2.2.2.1 w_1_227 w_1_10 w_1_228 rfl (by decide +kernel) ⟨⟨(Nat.le_of_ble_eq_true rfl), (Nat.le_of_ble_eq_true rfl)⟩, (Nat.le_of_ble_eq_true rfl), (Nat.le_of_ble_eq_true rfl)⟩ hK hP hD hS hA [2] [0, 1] rfl rfl (by decide) (by decide) (by decide) rfl rfl (Nat.le_of_ble_eq_true rfl) dX4_init_62 (fun u H locs hw hP hD hS => ?_)
  obtain ⟨k1_7, k2_8, rfl⟩ := hw
  have hP : va_P D vwCl [(h0, .inr (4, [.ref q_1, .int 0, .ref q_2, .ref q_3, .ref q_4])), (q_1, .inl (cS, 20, .inr (.inr (.inr (.inr (fun _ => none)))))), (q_6, .inr (7, [.ref k1_7, .ref k2_8, .int 0, .int 0, .int 0, .int 0, .int 0]))] H := hP
  have hD : va_D A [(h0, .inr (4, [.ref q_1, .int 0, .ref q_2, .ref q_3, .ref q_4])), (q_1, .inl (cS, 20, .inr (.inr (.inr (.inr (fun _ => none)))))), (q_6, .inr (7, [.ref k1_7, .ref k2_8, .int 0, .int 0, .int 0, .int 0, .int 0]))] := hD
  refine W.widen (k := 7) (n := 3045) (Nat.le_of_ble_eq_true rfl) (Nat.le_of_ble_eq_true rfl) ?_
  refine sk_astO (ws' := fun f_9 => [(h0, .inr (4, [.ref q_1, .int 0, .ref q_2, .ref q_3, .ref q_4])), (q_1, .inl (cS, 20, .inr (.inr (.inr (.inr f_9))))), (q_6, .inr (7, [.ref k1_7, .ref k2_8, .int 0, .int 0, .int 0, .int 0, .int 0]))]) (r := (RX7, TX7, 7)) hx hb hK hP hD hS 1 4 2 7 rfl rfl rfl rfl (by unfold vp_in; decide) (fun _ => rfl) dX4_init_65 (fun f_9 H locs hP hD hS => ?_)
  refine lv_iinc (v := 1) (lv' := [(1, .int 1), (0, .ref h0)]) hx hb dX4_init_66 hl (k := 0) rfl (by decide) (by decide) rfl (fun ls hl => ?_)
  refine lv_goto (tgt := 47) hx hb dX4_init_69 (by decide) ?_
  have hP := hP.sub (ws' := [(h0, .inr (4, [.ref q_1, .int 0, .ref q_2, .ref q_3, .ref q_4])), (q_1, .inl (cS, 20, .inr (.inr (.inr (.inr f_9)))))]) [0, 1] rfl
  have hD := hD.sub (ws' := [(h0, .inr (4, [.ref q_1, .int 0, .ref q_2, .ref q_3, .ref q_4])), (q_1, .inl (cS, 20, .inr (.inr (.inr (.inr f_9)))))]) [0, 1] (by decide) rfl
  refine lv_iload_n hx hb dX4_init_47 rfl (lv_at hl 0 rfl) ?_
  refine lv_bipush (v := 20) hx hb dX4_init_48 (by decide) ?_
  refine lv_icmp_ge (tgt := 72) hx hb dX4_init_50 (by decide) (fun c => absurd c (by decide)) (fun c_10 => ?_)
  refine lv_aload_n hx hb dX4_init_53 rfl (lv_at hl 1 rfl) ?_
  refine sk_get (v := .ref q_1) (C := RX4) (T := TX4) (N := 5) hx hb hts inlX4 hown hK hP 0 rfl rfl 0 (by decide) w_2_40 rfl dX4_init_54 ?_
  refine lv_iload_n hx hb dX4_init_57 rfl (lv_at hl 0 rfl) ?_
  refine sk_new (ci := 7) (fs := [.null, .null, .int 0, .int 0, .int 0, .int 0, .int 0]) (C := RX7) (T := TX7) (N := 7) (k1 := 8) (n1 := 3052) hx hb hts inlX7 tyX7 tyX7_ok hown w_2_37 w_1_225 w_1_10 hK hP hD hS hA rfl (fun j hj => by rcases (show j = 0 ∨ j = 1 ∨ j = 2 ∨ j = 3 ∨ j = 4 ∨ j = 5 ∨ j = 6 by omega) with rfl | rfl | rfl | rfl | rfl | rfl | rfl <;> rfl) (Nat.le_of_ble_eq_true rfl) (Nat.le_of_ble_eq_true rfl) (Nat.le_of_ble_eq_true rfl) (Nat.le_of_ble_eq_true rfl) dX4_init_58 (fun q_11 H hP hD hS => ?_)
  have hP : va_P D vwCl [(h0, .inr (4, [.ref q_1, .int 0, .ref q_2, .ref q_3, .ref q_4])), (q_1, .inl (cS, 20, .inr (.inr (.inr (.inr f_9))))), (q_11, .inr (7, [.null, .null, .int 0, .int 0, .int 0, .int 0, .int 0]))] H := hP
  have hD : va_D A [(h0, .inr (4, [.ref q_1, .int 0, .ref q_2, .ref q_3, .ref q_4])), (q_1, .inl (cS, 20, .inr (.inr (.inr (.inr f_9))))), (q_11, .inr (7, [.null, .null, .int 0, .int 0, .int 0, .int 0, .int 0]))] := hD
  refine lv_dup hx hb dX4_init_61 rfl ?_
  refine sk_INv (n := 0) (rest := [.ref q_11, .int 1, .ref q_1]) (wr := [(h0, .inr (4, [.ref q_1, .int 0, .ref q_2, .ref q_3, .ref q_4])), (q_1, .inl (cS, 20, .inr (.inr (.inr (.inr f_9)))))]) ⟨hx, hb, hml, hown, hts⟩ hl.1 (c_State_init l D cI cJ cC cZ cS q_11) hK.2.2.2.2.2.2.1 w_1_227 w_1_10 w_1_228 rfl (by decide +kernel) ⟨⟨(Nat.le_of_ble_eq_true rfl), (Nat.le_of_ble_eq_true rfl)⟩, (Nat.le_of_ble_eq_true rfl), (Nat.le_of_ble_eq_true rfl)⟩ hK hP hD hS hA [2] [0, 1] rfl rfl (by decide) (by decide) (by decide) rfl rfl (Nat.le_of_ble_eq_true rfl) dX4_init_62 (fun u H locs hw hP hD hS => ?_)
  obtain ⟨k1_12, k2_13, rfl⟩ := hw
  have hP : va_P D vwCl [(h0, .inr (4, [.ref q_1, .int 0, .ref q_2, .ref q_3, .ref q_4])), (q_1, .inl (cS, 20, .inr (.inr (.inr (.inr f_9))))), (q_11, .inr (7, [.ref k1_12, .ref k2_13, .int 0, .int 0, .int 0, .int 0, .int 0]))] H := hP
  have hD : va_D A [(h0, .inr (4, [.ref q_1, .int 0, .ref q_2, .ref q_3, .ref q_4])), (q_1, .inl (cS, 20, .inr (.inr (.inr (.inr f_9))))), (q_11, .inr (7, [.ref k1_12, .ref k2_13, .int 0, .int 0, .int 0, .int 0, .int 0]))] := hD
  refine W.widen (k := 10) (n := 3070) (Nat.le_of_ble_eq_true rfl) (Nat.le_of_ble_eq_true rfl) ?_
  refine sk_astO (ws' := fun f_14 => [(h0, .inr (4, [.ref q_1, .int 0, .ref q_2, .ref q_3, .ref q_4])), (q_1, .inl (cS, 20, .inr (.inr (.inr (.inr f_14))))), (q_11, .inr (7, [.ref k1_12, .ref k2_13, .int 0, .int 0, .int 0, .int 0, .int 0]))]) (r := (RX7, TX7, 7)) hx hb hK hP hD hS 1 4 2 7 rfl rfl rfl rfl (by unfold vp_in; decide) (fun _ => rfl) dX4_init_65 (fun f_14 H locs hP hD hS => ?_)
  refine lv_iinc (v := 2) (lv' := [(1, .int 2), (0, .ref h0)]) hx hb dX4_init_66 hl (k := 0) rfl (by decide) (by decide) rfl (fun ls hl => ?_)
  refine lv_goto (tgt := 47) hx hb dX4_init_69 (by decide) ?_
  have hP := hP.sub (ws' := [(h0, .inr (4, [.ref q_1, .int 0, .ref q_2, .ref q_3, .ref q_4])), (q_1, .inl (cS, 20, .inr (.inr (.inr (.inr f_14)))))]) [0, 1] rfl
  have hD := hD.sub (ws' := [(h0, .inr (4, [.ref q_1, .int 0, .ref q_2, .ref q_3, .ref q_4])), (q_1, .inl (cS, 20, .inr (.inr (.inr (.inr f_14)))))]) [0, 1] (by decide) rfl
  refine lv_iload_n hx hb dX4_init_47 rfl (lv_at hl 0 rfl) ?_
  refine lv_bipush (v := 20) hx hb dX4_init_48 (by decide) ?_
  refine lv_icmp_ge (tgt := 72) hx hb dX4_init_50 (by decide) (fun c => absurd c (by decide)) (fun c_15 => ?_)
  refine lv_aload_n hx hb dX4_init_53 rfl (lv_at hl 1 rfl) ?_
  refine sk_get (v := .ref q_1) (C := RX4) (T := TX4) (N := 5) hx hb hts inlX4 hown hK hP 0 rfl rfl 0 (by decide) w_2_40 rfl dX4_init_54 ?_
  refine lv_iload_n hx hb dX4_init_57 rfl (lv_at hl 0 rfl) ?_
  refine sk_new (ci := 7) (fs := [.null, .null, .int 0, .int 0, .int 0, .int 0, .int 0]) (C := RX7) (T := TX7) (N := 7) (k1 := 11) (n1 := 3077) hx hb hts inlX7 tyX7 tyX7_ok hown w_2_37 w_1_225 w_1_10 hK hP hD hS hA rfl (fun j hj => by rcases (show j = 0 ∨ j = 1 ∨ j = 2 ∨ j = 3 ∨ j = 4 ∨ j = 5 ∨ j = 6 by omega) with rfl | rfl | rfl | rfl | rfl | rfl | rfl <;> rfl) (Nat.le_of_ble_eq_true rfl) (Nat.le_of_ble_eq_true rfl) (Nat.le_of_ble_eq_true rfl) (Nat.le_of_ble_eq_true rfl) dX4_init_58 (fun q_16 H hP hD hS => ?_)
  have hP : va_P D vwCl [(h0, .inr (4, [.ref q_1, .int 0, .ref q_2, .ref q_3, .ref q_4])), (q_1, .inl (cS, 20, .inr (.inr (.inr (.inr f_14))))), (q_16, .inr (7, [.null, .null, .int 0, .int 0, .int 0, .int 0, .int 0]))] H := hP
  have hD : va_D A [(h0, .inr (4, [.ref q_1, .int 0, .ref q_2, .ref q_3, .ref q_4])), (q_1, .inl (cS, 20, .inr (.inr (.inr (.inr f_14))))), (q_16, .inr (7, [.null, .null, .int 0, .int 0, .int 0, .int 0, .int 0]))] := hD
  refine lv_dup hx hb dX4_init_61 rfl ?_
  refine sk_INv (n := 0) (rest := [.ref q_16, .int 2, .ref q_1]) (wr := [(h0, .inr (4, [.ref q_1, .int 0, .ref q_2, .ref q_3, .ref q_4])), (q_1, .inl (cS, 20, .inr (.inr (.inr (.inr f_14)))))]) ⟨hx, hb, hml, hown, hts⟩ hl.1 (c_State_init l D cI cJ cC cZ cS q_16) hK.2.2.2.2.2.2.1 w_1_227 w_1_10 w_1_228 rfl (by decide +kernel) ⟨⟨(Nat.le_of_ble_eq_true rfl), (Nat.le_of_ble_eq_true rfl)⟩, (Nat.le_of_ble_eq_true rfl), (Nat.le_of_ble_eq_true rfl)⟩ hK hP hD hS hA [2] [0, 1] rfl rfl (by decide) (by decide) (by decide) rfl rfl (Nat.le_of_ble_eq_true rfl) dX4_init_62 (fun u H locs hw hP hD hS => ?_)
  obtain ⟨k1_17, k2_18, rfl⟩ := hw
  have hP : va_P D vwCl [(h0, .inr (4, [.ref q_1, .int 0, .ref q_2, .ref q_3, .ref q_4])), (q_1, .inl (cS, 20, .inr (.inr (.inr (.inr f_14))))), (q_16, .inr (7, [.ref k1_17, .ref k2_18, .int 0, .int 0, .int 0, .int 0, .int 0]))] H := hP
  have hD : va_D A [(h0, .inr (4, [.ref q_1, .int 0, .ref q_2, .ref q_3, .ref q_4])), (q_1, .inl (cS, 20, .inr (.inr (.inr (.inr f_14))))), (q_16, .inr (7, [.ref k1_17, .ref k2_18, .int 0, .int 0, .int 0, .int 0, .int 0]))] := hD
  refine W.widen (k := 13) (n := 3095) (Nat.le_of_ble_eq_true rfl) (Nat.le_of_ble_eq_true rfl) ?_
  refine sk_astO (ws' := fun f_19 => [(h0, .inr (4, [.ref q_1, .int 0, .ref q_2, .ref q_3, .ref q_4])), (q_1, .inl (cS, 20, .inr (.inr (.inr (.inr f_19))))), (q_16, .inr (7, [.ref k1_17, .ref k2_18, .int 0, .int 0, .int 0, .int 0, .int 0]))]) (r := (RX7, TX7, 7)) hx hb hK hP hD hS 1 4 2 7 rfl rfl rfl rfl (by unfold vp_in; decide) (fun _ => rfl) dX4_init_65 (fun f_19 H locs hP hD hS => ?_)
  refine lv_iinc (v := 3) (lv' := [(1, .int 3), (0, .ref h0)]) hx hb dX4_init_66 hl (k := 0) rfl (by decide) (by decide) rfl (fun ls hl => ?_)
  refine lv_goto (tgt := 47) hx hb dX4_init_69 (by decide) ?_
  have hP := hP.sub (ws' := [(h0, .inr (4, [.ref q_1, .int 0, .ref q_2, .ref q_3, .ref q_4])), (q_1, .inl (cS, 20, .inr (.inr (.inr (.inr f_19)))))]) [0, 1] rfl
  have hD := hD.sub (ws' := [(h0, .inr (4, [.ref q_1, .int 0, .ref q_2, .ref q_3, .ref q_4])), (q_1, .inl (cS, 20, .inr (.inr (.inr (.inr f_19)))))]) [0, 1] (by decide) rfl
  refine lv_iload_n hx hb dX4_init_47 rfl (lv_at hl 0 rfl) ?_
  refine lv_bipush (v := 20) hx hb dX4_init_48 (by decide) ?_
  refine lv_icmp_ge (tgt := 72) hx hb dX4_init_50 (by decide) (fun c => absurd c (by decide)) (fun c_20 => ?_)
  refine lv_aload_n hx hb dX4_init_53 rfl (lv_at hl 1 rfl) ?_
  refine sk_get (v := .ref q_1) (C := RX4) (T := TX4) (N := 5) hx hb hts inlX4 hown hK hP 0 rfl rfl 0 (by decide) w_2_40 rfl dX4_init_54 ?_
  refine lv_iload_n hx hb dX4_init_57 rfl (lv_at hl 0 rfl) ?_
  refine sk_new (ci := 7) (fs := [.null, .null, .int 0, .int 0, .int 0, .int 0, .int 0]) (C := RX7) (T := TX7) (N := 7) (k1 := 14) (n1 := 3102) hx hb hts inlX7 tyX7 tyX7_ok hown w_2_37 w_1_225 w_1_10 hK hP hD hS hA rfl (fun j hj => by rcases (show j = 0 ∨ j = 1 ∨ j = 2 ∨ j = 3 ∨ j = 4 ∨ j = 5 ∨ j = 6 by omega) with rfl | rfl | rfl | rfl | rfl | rfl | rfl <;> rfl) (Nat.le_of_ble_eq_true rfl) (Nat.le_of_ble_eq_true rfl) (Nat.le_of_ble_eq_true rfl) (Nat.le_of_ble_eq_true rfl) dX4_init_58 (fun q_21 H hP hD hS => ?_)
  have hP : va_P D vwCl [(h0, .inr (4, [.ref q_1, .int 0, .ref q_2, .ref q_3, .ref q_4])), (q_1, .inl (cS, 20, .inr (.inr (.inr (.inr f_19))))), (q_21, .inr (7, [.null, .null, .int 0, .int 0, .int 0, .int 0, .int 0]))] H := hP
  have hD : va_D A [(h0, .inr (4, [.ref q_1, .int 0, .ref q_2, .ref q_3, .ref q_4])), (q_1, .inl (cS, 20, .inr (.inr (.inr (.inr f_19))))), (q_21, .inr (7, [.null, .null, .int 0, .int 0, .int 0, .int 0, .int 0]))] := hD
  refine lv_dup hx hb dX4_init_61 rfl ?_
  refine sk_INv (n := 0) (rest := [.ref q_21, .int 3, .ref q_1]) (wr := [(h0, .inr (4, [.ref q_1, .int 0, .ref q_2, .ref q_3, .ref q_4])), (q_1, .inl (cS, 20, .inr (.inr (.inr (.inr f_19)))))]) ⟨hx, hb, hml, hown, hts⟩ hl.1 (c_State_init l D cI cJ cC cZ cS q_21) hK.2.2.2.2.2.2.1 w_1_227 w_1_10 w_1_228 rfl (by decide +kernel) ⟨⟨(Nat.le_of_ble_eq_true rfl), (Nat.le_of_ble_eq_true rfl)⟩, (Nat.le_of_ble_eq_true rfl), (Nat.le_of_ble_eq_true rfl)⟩ hK hP hD hS hA [2] [0, 1] rfl rfl (by decide) (by decide) (by decide) rfl rfl (Nat.le_of_ble_eq_true rfl) dX4_init_62 (fun u H locs hw hP hD hS => ?_)
  obtain ⟨k1_22, k2_23, rfl⟩ := hw
  have hP : va_P D vwCl [(h0, .inr (4, [.ref q_1, .int 0, .ref q_2, .ref q_3, .ref q_4])), (q_1, .inl (cS, 20, .inr (.inr (.inr (.inr f_19))))), (q_21, .inr (7, [.ref k1_22, .ref k2_23, .int 0, .int 0, .int 0, .int 0, .int 0]))] H := hP
  have hD : va_D A [(h0, .inr (4, [.ref q_1, .int 0, .ref q_2, .ref q_3, .ref q_4])), (q_1, .inl (cS, 20, .inr (.inr (.inr (.inr f_19))))), (q_21, .inr (7, [.ref k1_22, .ref k2_23, .int 0, .int 0, .int 0, .int 0, .int 0]))] := hD
  refine W.widen (k := 16) (n := 3120) (Nat.le_of_ble_eq_true rfl) (Nat.le_of_ble_eq_true rfl) ?_
  refine sk_astO (ws' := fun f_24 => [(h0, .inr (4, [.ref q_1, .int 0, .ref q_2, .ref q_3, .ref q_4])), (q_1, .inl (cS, 20, .inr (.inr (.inr (.inr f_24))))), (q_21, .inr (7, [.ref k1_22, .ref k2_23, .int 0, .int 0, .int 0, .int 0, .int 0]))]) (r := (RX7, TX7, 7)) hx hb hK hP hD hS 1 4 2 7 rfl rfl rfl rfl (by unfold vp_in; decide) (fun _ => rfl) dX4_init_65 (fun f_24 H locs hP hD hS => ?_)
  refine lv_iinc (v := 4) (lv' := [(1, .int 4), (0, .ref h0)]) hx hb dX4_init_66 hl (k := 0) rfl (by decide) (by decide) rfl (fun ls hl => ?_)
  refine lv_goto (tgt := 47) hx hb dX4_init_69 (by decide) ?_
  have hP := hP.sub (ws' := [(h0, .inr (4, [.ref q_1, .int 0, .ref q_2, .ref q_3, .ref q_4])), (q_1, .inl (cS, 20, .inr (.inr (.inr (.inr f_24)))))]) [0, 1] rfl
  have hD := hD.sub (ws' := [(h0, .inr (4, [.ref q_1, .int 0, .ref q_2, .ref q_3, .ref q_4])), (q_1, .inl (cS, 20, .inr (.inr (.inr (.inr f_24)))))]) [0, 1] (by decide) rfl
  refine lv_iload_n hx hb dX4_init_47 rfl (lv_at hl 0 rfl) ?_
  refine lv_bipush (v := 20) hx hb dX4_init_48 (by decide) ?_
  refine lv_icmp_ge (tgt := 72) hx hb dX4_init_50 (by decide) (fun c => absurd c (by decide)) (fun c_25 => ?_)
  refine lv_aload_n hx hb dX4_init_53 rfl (lv_at hl 1 rfl) ?_
  refine sk_get (v := .ref q_1) (C := RX4) (T := TX4) (N := 5) hx hb hts inlX4 hown hK hP 0 rfl rfl 0 (by decide) w_2_40 rfl dX4_init_54 ?_
  refine lv_iload_n hx hb dX4_init_57 rfl (lv_at hl 0 rfl) ?_
  refine sk_new (ci := 7) (fs := [.null, .null, .int 0, .int 0, .int 0, .int 0, .int 0]) (C := RX7) (T := TX7) (N := 7) (k1 := 17) (n1 := 3127) hx hb hts inlX7 tyX7 tyX7_ok hown w_2_37 w_1_225 w_1_10 hK hP hD hS hA rfl (fun j hj => by rcases (show j = 0 ∨ j = 1 ∨ j = 2 ∨ j = 3 ∨ j = 4 ∨ j = 5 ∨ j = 6 by omega) with rfl | rfl | rfl | rfl | rfl | rfl | rfl <;> rfl) (Nat.le_of_ble_eq_true rfl) (Nat.le_of_ble_eq_true rfl) (Nat.le_of_ble_eq_true rfl) (Nat.le_of_ble_eq_true rfl) dX4_init_58 (fun q_26 H hP hD hS => ?_)
  have hP : va_P D vwCl [(h0, .inr (4, [.ref q_1, .int 0, .ref q_2, .ref q_3, .ref q_4])), (q_1, .inl (cS, 20, .inr (.inr (.inr (.inr f_24))))), (q_26, .inr (7, [.null, .null, .int 0, .int 0, .int 0, .int 0, .int 0]))] H := hP
  have hD : va_D A [(h0, .inr (4, [.ref q_1, .int 0, .ref q_2, .ref q_3, .ref q_4])), (q_1, .inl (cS, 20, .inr (.inr (.inr (.inr f_24))))), (q_26, .inr (7, [.null, .null, .int 0, .int 0, .int 0, .int 0, .int 0]))] := hD
  refine lv_dup hx hb dX4_init_61 rfl ?_
  refine sk_INv (n := 0) (rest := [.ref q_26, .int 4, .ref q_1]) (wr := [(h0, .inr (4, [.ref q_1, .int 0, .ref q_2, .ref q_3, .ref q_4])), (q_1, .inl (cS, 20, .inr (.inr (.inr (.inr f_24)))))]) ⟨hx, hb, hml, hown, hts⟩ hl.1 (c_State_init l D cI cJ cC cZ cS q_26) hK.2.2.2.2.2.2.1 w_1_227 w_1_10 w_1_228 rfl (by decide +kernel) ⟨⟨(Nat.le_of_ble_eq_true rfl), (Nat.le_of_ble_eq_true rfl)⟩, (Nat.le_of_ble_eq_true rfl), (Nat.le_of_ble_eq_true rfl)⟩ hK hP hD hS hA [2] [0, 1] rfl rfl (by decide) (by decide) (by decide) rfl rfl (Nat.le_of_ble_eq_true rfl) dX4_init_62 (fun u H locs hw hP hD hS => ?_)
  obtain ⟨k1_27, k2_28, rfl⟩ := hw
  have hP : va_P D vwCl [(h0, .inr (4, [.ref q_1, .int 0, .ref q_2, .ref q_3, .ref q_4])), (q_1, .inl (cS, 20, .inr (.inr (.inr (.inr f_24))))), (q_26, .inr (7, [.ref k1_27, .ref k2_28, .int 0, .int 0, .int 0, .int 0, .int 0]))] H := hP
  have hD : va_D A [(h0, .inr (4, [.ref q_1, .int 0, .ref q_2, .ref q_3, .ref q_4])), (q_1, .inl (cS, 20, .inr (.inr (.inr (.inr f_24))))), (q_26, .inr (7, [.ref k1_27, .ref k2_28, .int 0, .int 0, .int 0, .int 0, .int 0]))] := hD
  refine W.widen (k := 19) (n := 3145) (Nat.le_of_ble_eq_true rfl) (Nat.le_of_ble_eq_true rfl) ?_
  refine sk_astO (ws' := fun f_29 => [(h0, .inr (4, [.ref q_1, .int 0, .ref q_2, .ref q_3, .ref q_4])), (q_1, .inl (cS, 20, .inr (.inr (.inr (.inr f_29))))), (q_26, .inr (7, [.ref k1_27, .ref k2_28, .int 0, .int 0, .int 0, .int 0, .int 0]))]) (r := (RX7, TX7, 7)) hx hb hK hP hD hS 1 4 2 7 rfl rfl rfl rfl (by unfold vp_in; decide) (fun _ => rfl) dX4_init_65 (fun f_29 H locs hP hD hS => ?_)
  refine lv_iinc (v := 5) (lv' := [(1, .int 5), (0, .ref h0)]) hx hb dX4_init_66 hl (k := 0) rfl (by decide) (by decide) rfl (fun ls hl => ?_)
  refine lv_goto (tgt := 47) hx hb dX4_init_69 (by decide) ?_
  have hP := hP.sub (ws' := [(h0, .inr (4, [.ref q_1, .int 0, .ref q_2, .ref q_3, .ref q_4])), (q_1, .inl (cS, 20, .inr (.inr (.inr (.inr f_29)))))]) [0, 1] rfl
  have hD := hD.sub (ws' := [(h0, .inr (4, [.ref q_1, .int 0, .ref q_2, .ref q_3, .ref q_4])), (q_1, .inl (cS, 20, .inr (.inr (.inr (.inr f_29)))))]) [0, 1] (by decide) rfl
  refine lv_iload_n hx hb dX4_init_47 rfl (lv_at hl 0 rfl) ?_
  refine lv_bipush (v := 20) hx hb dX4_init_48 (by decide) ?_
  refine lv_icmp_ge (tgt := 72) hx hb dX4_init_50 (by decide) (fun c => absurd c (by decide)) (fun c_30 => ?_)
  refine lv_aload_n hx hb dX4_init_53 rfl (lv_at hl 1 rfl) ?_
  refine sk_get (v := .ref q_1) (C := RX4) (T := TX4) (N := 5) hx hb hts inlX4 hown hK hP 0 rfl rfl 0 (by decide) w_2_40 rfl dX4_init_54 ?_
  refine lv_iload_n hx hb dX4_init_57 rfl (lv_at hl 0 rfl) ?_
  refine sk_new (ci := 7) (fs := [.null, .null, .int 0, .int 0, .int 0, .int 0, .int 0]) (C := RX7) (T := TX7) (N := 7) (k1 := 20) (n1 := 3152) hx hb hts inlX7 tyX7 tyX7_ok hown w_2_37 w_1_225 w_1_10 hK hP hD hS hA rfl (fun j hj => by rcases (show j = 0 ∨ j = 1 ∨ j = 2 ∨ j = 3 ∨ j = 4 ∨ j = 5 ∨ j = 6 by omega) with rfl | rfl | rfl | rfl | rfl | rfl | rfl <;> rfl) (Nat.le_of_ble_eq_true rfl) (Nat.le_of_ble_eq_true rfl) (Nat.le_of_ble_eq_true rfl) (Nat.le_of_ble_eq_true rfl) dX4_init_58 (fun q_31 H hP hD hS => ?_)
  have hP : va_P D vwCl [(h0, .inr (4, [.ref q_1, .int 0, .ref q_2, .ref q_3, .ref q_4])), (q_1, .inl (cS, 20, .inr (.inr (.inr (.inr f_29))))), (q_31, .inr (7, [.null, .null, .int 0, .int 0, .int 0, .int 0, .int 0]))] H := hP
  have hD : va_D A [(h0, .inr (4, [.ref q_1, .int 0, .ref q_2, .ref q_3, .ref q_4])), (q_1, .inl (cS, 20, .inr (.inr (.inr (.inr f_29))))), (q_31, .inr (7, [.null, .null, .int 0, .int 0, .int 0, .int 0, .int 0]))] := hD
  refine lv_dup hx hb dX4_init_61 rfl ?_
  refine sk_INv (n := 0) (rest := [.ref q_31, .int 5, .ref q_1]) (wr := [(h0, .inr (4, [.ref q_1, .int 0, .ref q_2, .ref q_3, .ref q_4])), (q_1, .inl (cS, 20, .inr (.inr (.inr (.inr f_29)))))]) ⟨hx, hb, hml, hown, hts⟩ hl.1 (c_State_init l D cI cJ cC cZ cS q_31) hK.2.2.2.2.2.2.1 w_1_227 w_1_10 w_1_228 rfl (by decide +kernel) ⟨⟨(Nat.le_of_ble_eq_true rfl), (Nat.le_of_ble_eq_true rfl)⟩, (Nat.le_of_ble_eq_true rfl), (Nat.le_of_ble_eq_true rfl)⟩ hK hP hD hS hA [2] [0, 1] rfl rfl (by decide) (by decide) (by decide) rfl rfl (Nat.le_of_ble_eq_true rfl) dX4_init_62 (fun u H locs hw hP hD hS => ?_)
  obtain ⟨k1_32, k2_33, rfl⟩ := hw
  have hP : va_P D vwCl [(h0, .inr (4, [.ref q_1, .int 0, .ref q_2, .ref q_3, .ref q_4])), (q_1, .inl (cS, 20, .inr (.inr (.inr (.inr f_29))))), (q_31, .inr (7, [.ref k1_32, .ref k2_33, .int 0, .int 0, .int 0, .int 0, .int 0]))] H := hP
  have hD : va_D A [(h0, .inr (4, [.ref q_1, .int 0, .ref q_2, .ref q_3, .ref q_4])), (q_1, .inl (cS, 20, .inr (.inr (.inr (.inr f_29))))), (q_31, .inr (7, [.ref k1_32, .ref k2_33, .int 0, .int 0, .int 0, .int 0, .int 0]))] := hD
  refine W.widen (k := 22) (n := 3170) (Nat.le_of_ble_eq_true rfl) (Nat.le_of_ble_eq_true rfl) ?_
  refine sk_astO (ws' := fun f_34 => [(h0, .inr (4, [.ref q_1, .int 0, .ref q_2, .ref q_3, .ref q_4])), (q_1, .inl (cS, 20, .inr (.inr (.inr (.inr f_34))))), (q_31, .inr (7, [.ref k1_32, .ref k2_33, .int 0, .int 0, .int 0, .int 0, .int 0]))]) (r := (RX7, TX7, 7)) hx hb hK hP hD hS 1 4 2 7 rfl rfl rfl rfl (by unfold vp_in; decide) (fun _ => rfl) dX4_init_65 (fun f_34 H locs hP hD hS => ?_)
  refine lv_iinc (v := 6) (lv' := [(1, .int 6), (0, .ref h0)]) hx hb dX4_init_66 hl (k := 0) rfl (by decide) (by decide) rfl (fun ls hl => ?_)
  refine lv_goto (tgt := 47) hx hb dX4_init_69 (by decide) ?_
  have hP := hP.sub (ws' := [(h0, .inr (4, [.ref q_1, .int 0, .ref q_2, .ref q_3, .ref q_4])), (q_1, .inl (cS, 20, .inr (.inr (.inr (.inr f_34)))))]) [0, 1] rfl
  have hD := hD.sub (ws' := [(h0, .inr (4, [.ref q_1, .int 0, .ref q_2, .ref q_3, .ref q_4])), (q_1, .inl (cS, 20, .inr (.inr (.inr (.inr f_34)))))]) [0, 1] (by decide) rfl
  refine lv_iload_n hx hb dX4_init_47 rfl (lv_at hl 0 rfl) ?_
  refine lv_bipush (v := 20) hx hb dX4_init_48 (by decide) ?_
  refine lv_icmp_ge (tgt := 72) hx hb dX4_init_50 (by decide) (fun c => absurd c (by decide)) (fun c_35 => ?_)
  refine lv_aload_n hx hb dX4_init_53 rfl (lv_at hl 1 rfl) ?_
  refine sk_get (v := .ref q_1) (C := RX4) (T := TX4) (N := 5) hx hb hts inlX4 hown hK hP 0 rfl rfl 0 (by decide) w_2_40 rfl dX4_init_54 ?_
  refine lv_iload_n hx hb dX4_init_57 rfl (lv_at hl 0 rfl) ?_
  refine sk_new (ci := 7) (fs := [.null, .null, .int 0, .int 0, .int 0, .int 0, .int 0]) (C := RX7) (T := TX7) (N := 7) (k1 := 23) (n1 := 3177) hx hb hts inlX7 tyX7 tyX7_ok hown w_2_37 w_1_225 w_1_10 hK hP hD hS hA rfl (fun j hj => by rcases (show j = 0 ∨ j = 1 ∨ j = 2 ∨ j = 3 ∨ j = 4 ∨ j = 5 ∨ j = 6 by omega) with rfl | rfl | rfl | rfl | rfl | rfl | rfl <;> rfl) (Nat.le_of_ble_eq_true rfl) (Nat.le_of_ble_eq_true rfl) (Nat.le_of_ble_eq_true rfl) (Nat.le_of_ble_eq_true rfl) dX4_init_58 (fun q_36 H hP hD hS => ?_)
  have hP : va_P D vwCl [(h0, .inr (4, [.ref q_1, .int 0, .ref q_2, .ref q_3, .ref q_4])), (q_1, .inl (cS, 20, .inr (.inr (.inr (.inr f_34))))), (q_36, .inr (7, [.null, .null, .int 0, .int 0, .int 0, .int 0, .int 0]))] H := hP
  have hD : va_D A [(h0, .inr (4, [.ref q_1, .int 0, .ref q_2, .ref q_3, .ref q_4])), (q_1, .inl (cS, 20, .inr (.inr (.inr (.inr f_34))))), (q_36, .inr (7, [.null, .null, .int 0, .int 0, .int 0, .int 0, .int 0]))] := hD
  refine lv_dup hx hb dX4_init_61 rfl ?_
  refine sk_INv (n := 0) (rest := [.ref q_36, .int 6, .ref q_1]) (wr := [(h0, .inr (4, [.ref q_1, .int 0, .ref q_2, .ref q_3, .ref q_4])), (q_1, .inl (cS, 20, .inr (.inr (.inr (.inr f_34)))))]) ⟨hx, hb, hml, hown, hts⟩ hl.1 (c_State_init l D cI cJ cC cZ cS q_36) hK.2.2.2.2.2.2.1 w_1_227 w_1_10 w_1_228 rfl (by decide +kernel) ⟨⟨(Nat.le_of_ble_eq_true rfl), (Nat.le_of_ble_eq_true rfl)⟩, (Nat.le_of_ble_eq_true rfl), (Nat.le_of_ble_eq_true rfl)⟩ hK hP hD hS hA [2] [0, 1] rfl rfl (by decide) (by decide) (by decide) rfl rfl (Nat.le_of_ble_eq_true rfl) dX4_init_62 (fun u H locs hw hP hD hS => ?_)
  obtain ⟨k1_37, k2_38, rfl⟩ := hw
  have hP : va_P D vwCl [(h0, .inr (4, [.ref q_1, .int 0, .ref q_2, .ref q_3, .ref q_4])), (q_1, .inl (cS, 20, .inr (.inr (.inr (.inr f_34))))), (q_36, .inr (7, [.ref k1_37, .ref k2_38, .int 0, .int 0, .int 0, .int 0, .int 0]))] H := hP
  have hD : va_D A [(h0, .inr (4, [.ref q_1, .int 0, .ref q_2, .ref q_3, .ref q_4])), (q_1, .inl (cS, 20, .inr (.inr (.inr (.inr f_34))))), (q_36, .inr (7, [.ref k1_37, .ref k2_38, .int 0, .int 0, .int 0, .int 0, .int 0]))] := hD
  refine W.widen (k := 25) (n := 3195) (Nat.le_of_ble_eq_true rfl) (Nat.le_of_ble_eq_true rfl) ?_
  refine sk_astO (ws' := fun f_39 => [(h0, .inr (4, [.ref q_1, .int 0, .ref q_2, .ref q_3, .ref q_4])), (q_1, .inl (cS, 20, .inr (.inr (.inr (.inr f_39))))), (q_36, .inr (7, [.ref k1_37, .ref k2_38, .int 0, .int 0, .int 0, .int 0, .int 0]))]) (r := (RX7, TX7, 7)) hx hb hK hP hD hS 1 4 2 7 rfl rfl rfl rfl (by unfold vp_in; decide) (fun _ => rfl) dX4_init_65 (fun f_39 H locs hP hD hS => ?_)
  refine lv_iinc (v := 7) (lv' := [(1, .int 7), (0, .ref h0)]) hx hb dX4_init_66 hl (k := 0) rfl (by decide) (by decide) rfl (fun ls hl => ?_)
  refine lv_goto (tgt := 47) hx hb dX4_init_69 (by decide) ?_
  have hP := hP.sub (ws' := [(h0, .inr (4, [.ref q_1, .int 0, .ref q_2, .ref q_3, .ref q_4])), (q_1, .inl (cS, 20, .inr (.inr (.inr (.inr f_39)))))]) [0, 1] rfl
  have hD := hD.sub (ws' := [(h0, .inr (4, [.ref q_1, .int 0, .ref q_2, .ref q_3, .ref q_4])), (q_1, .inl (cS, 20, .inr (.inr (.inr (.inr f_39)))))]) [0, 1] (by decide) rfl
  refine lv_iload_n hx hb dX4_init_47 rfl (lv_at hl 0 rfl) ?_
  refine lv_bipush (v := 20) hx hb dX4_init_48 (by decide) ?_
  refine lv_icmp_ge (tgt := 72) hx hb dX4_init_50 (by decide) (fun c => absurd c (by decide)) (fun c_40 => ?_)
  refine lv_aload_n hx hb dX4_init_53 rfl (lv_at hl 1 rfl) ?_
  refine sk_get (v := .ref q_1) (C := RX4) (T := TX4) (N := 5) hx hb hts inlX4 hown hK hP 0 rfl rfl 0 (by decide) w_2_40 rfl dX4_init_54 ?_
  refine lv_iload_n hx hb dX4_init_57 rfl (lv_at hl 0 rfl) ?_
  refine sk_new (ci := 7) (fs := [.null, .null, .int 0, .int 0, .int 0, .int 0, .int 0]) (C := RX7) (T := TX7) (N := 7) (k1 := 26) (n1 := 3202) hx hb hts inlX7 tyX7 tyX7_ok hown w_2_37 w_1_225 w_1_10 hK hP hD hS hA rfl (fun j hj => by rcases (show j = 0 ∨ j = 1 ∨ j = 2 ∨ j = 3 ∨ j = 4 ∨ j = 5 ∨ j = 6 by omega) with rfl | rfl | rfl | rfl | rfl | rfl | rfl <;> rfl) (Nat.le_of_ble_eq_true rfl) (Nat.le_of_ble_eq_true rfl) (Nat.le_of_ble_eq_true rfl) (Nat.le_of_ble_eq_true rfl) dX4_init_58 (fun q_41 H hP hD hS => ?_)
  have hP : va_P D vwCl [(h0, .inr (4, [.ref q_1, .int 0, .ref q_2, .ref q_3, .ref q_4])), (q_1, .inl (cS, 20, .inr (.inr (.inr (.inr f_39))))), (q_41, .inr (7, [.null, .null, .int 0, .int 0, .int 0, .int 0, .int 0]))] H := hP
  have hD : va_D A [(h0, .inr (4, [.ref q_1, .int 0, .ref q_2, .ref q_3, .ref q_4])), (q_1, .inl (cS, 20, .inr (.inr (.inr (.inr f_39))))), (q_41, .inr (7, [.null, .null, .int 0, .int 0, .int 0, .int 0, .int 0]))] := hD
  refine lv_dup hx hb dX4_init_61 rfl ?_
  refine sk_INv (n := 0) (rest := [.ref q_41, .int 7, .ref q_1]) (wr := [(h0, .inr (4, [.ref q_1, .int 0, .ref q_2, .ref q_3, .ref q_4])), (q_1, .inl (cS, 20, .inr (.inr (.inr (.inr f_39)))))]) ⟨hx, hb, hml, hown, hts⟩ hl.1 (c_State_init l D cI cJ cC cZ cS q_41) hK.2.2.2.2.2.2.1 w_1_227 w_1_10 w_1_228 rfl (by decide +kernel) ⟨⟨(Nat.le_of_ble_eq_true rfl), (Nat.le_of_ble_eq_true rfl)⟩, (Nat.le_of_ble_eq_true rfl), (Nat.le_of_ble_eq_true rfl)⟩ hK hP hD hS hA [2] [0, 1] rfl rfl (by decide) (by decide) (by decide) rfl rfl (Nat.le_of_ble_eq_true rfl) dX4_init_62 (fun u H locs hw hP hD hS => ?_)
  obtain ⟨k1_42, k2_43, rfl⟩ := hw
  have hP : va_P D vwCl [(h0, .inr (4, [.ref q_1, .int 0, .ref q_2, .ref q_3, .ref q_4])), (q_1, .inl (cS, 20, .inr (.inr (.inr (.inr f_39))))), (q_41, .inr (7, [.ref k1_42, .ref k2_43, .int 0, .int 0, .int 0, .int 0, .int 0]))] H := hP
  have hD : va_D A [(h0, .inr (4, [.ref q_1, .int 0, .ref q_2, .ref q_3, .ref q_4])), (q_1, .inl (cS, 20, .inr (.inr (.inr (.inr f_39))))), (q_41, .inr (7, [.ref k1_42, .ref k2_43, .int 0, .int 0, .int 0, .int 0, .int 0]))] := hD
  refine W.widen (k := 28) (n := 3220) (Nat.le_of_ble_eq_true rfl) (Nat.le_of_ble_eq_true rfl) ?_
  refine sk_astO (ws' := fun f_44 => [(h0, .inr (4, [.ref q_1, .int 0, .ref q_2, .ref q_3, .ref q_4])), (q_1, .inl (cS, 20, .inr (.inr (.inr (.inr f_44))))), (q_41, .inr (7, [.ref k1_42, .ref k2_43, .int 0, .int 0, .int 0, .int 0, .int 0]))]) (r := (RX7, TX7, 7)) hx hb hK hP hD hS 1 4 2 7 rfl rfl rfl rfl (by unfold vp_in; decide) (fun _ => rfl) dX4_init_65 (fun f_44 H locs hP hD hS => ?_)
  refine lv_iinc (v := 8) (lv' := [(1, .int 8), (0, .ref h0)]) hx hb dX4_init_66 hl (k := 0) rfl (by decide) (by decide) rfl (fun ls hl => ?_)
  refine lv_goto (tgt := 47) hx hb dX4_init_69 (by decide) ?_
  have hP := hP.sub (ws' := [(h0, .inr (4, [.ref q_1, .int 0, .ref q_2, .ref q_3, .ref q_4])), (q_1, .inl (cS, 20, .inr (.inr (.inr (.inr f_44)))))]) [0, 1] rfl
  have hD := hD.sub (ws' := [(h0, .inr (4, [.ref q_1, .int 0, .ref q_2, .ref q_3, .ref q_4])), (q_1, .inl (cS, 20, .inr (.inr (.inr (.inr f_44)))))]) [0, 1] (by decide) rfl
  refine lv_iload_n hx hb dX4_init_47 rfl (lv_at hl 0 rfl) ?_
  refine lv_bipush (v := 20) hx hb dX4_init_48 (by decide) ?_
  refine lv_icmp_ge (tgt := 72) hx hb dX4_init_50 (by decide) (fun c => absurd c (by decide)) (fun c_45 => ?_)
  refine lv_aload_n hx hb dX4_init_53 rfl (lv_at hl 1 rfl) ?_
  refine sk_get (v := .ref q_1) (C := RX4) (T := TX4) (N := 5) hx hb hts inlX4 hown hK hP 0 rfl rfl 0 (by decide) w_2_40 rfl dX4_init_54 ?_
  refine lv_iload_n hx hb dX4_init_57 rfl (lv_at hl 0 rfl) ?_
  refine sk_new (ci := 7) (fs := [.null, .null, .int 0, .int 0, .int 0, .int 0, .int 0]) (C := RX7) (T := TX7) (N := 7) (k1 := 29) (n1 := 3227) hx hb hts inlX7 tyX7 tyX7_ok hown w_2_37 w_1_225 w_1_10 hK hP hD hS hA rfl (fun j hj => by rcases (show j = 0 ∨ j = 1 ∨ j = 2 ∨ j = 3 ∨ j = 4 ∨ j = 5 ∨ j = 6 by omega) with rfl | rfl | rfl | rfl | rfl | rfl | rfl <;> rfl) (Nat.le_of_ble_eq_true rfl) (Nat.le_of_ble_eq_true rfl) (Nat.le_of_ble_eq_true rfl) (Nat.le_of_ble_eq_true rfl) dX4_init_58 (fun q_46 H hP hD hS => ?_)
  have hP : va_P D vwCl [(h0, .inr (4, [.ref q_1, .int 0, .ref q_2, .ref q_3, .ref q_4])), (q_1, .inl (cS, 20, .inr (.inr (.inr (.inr f_44))))), (q_46, .inr (7, [.null, .null, .int 0, .int 0, .int 0, .int 0, .int 0]))] H := hP
  have hD : va_D A [(h0, .inr (4, [.ref q_1, .int 0, .ref q_2, .ref q_3, .ref q_4])), (q_1, .inl (cS, 20, .inr (.inr (.inr (.inr f_44))))), (q_46, .inr (7, [.null, .null, .int 0, .int 0, .int 0, .int 0, .int 0]))] := hD
  refine lv_dup hx hb dX4_init_61 rfl ?_
  refine sk_INv (n := 0) (rest := [.ref q_46, .int 8, .ref q_1]) (wr := [(h0, .inr (4, [.ref q_1, .int 0, .ref q_2, .ref q_3, .ref q_4])), (q_1, .inl (cS, 20, .inr (.inr (.inr (.inr f_44)))))]) ⟨hx, hb, hml, hown, hts⟩ hl.1 (c_State_init l D cI cJ cC cZ cS q_46) hK.2.2.2.2.2.2.1 w_1_227 w_1_10 w_1_228 rfl (by decide +kernel) ⟨⟨(Nat.le_of_ble_eq_true rfl), (Nat.le_of_ble_eq_true rfl)⟩, (Nat.le_of_ble_eq_true rfl), (Nat.le_of_ble_eq_true rfl)⟩ hK hP hD hS hA [2] [0, 1] rfl rfl (by decide) (by decide) (by decide) rfl rfl (Nat.le_of_ble_eq_true rfl) dX4_init_62 (fun u H locs hw hP hD hS => ?_)
  obtain ⟨k1_47, k2_48, rfl⟩ := hw
  have hP : va_P D vwCl [(h0, .inr (4, [.ref q_1, .int 0, .ref q_2, .ref q_3, .ref q_4])), (q_1, .inl (cS, 20, .inr (.inr (.inr (.inr f_44))))), (q_46, .inr (7, [.ref k1_47, .ref k2_48, .int 0, .int 0, .int 0, .int 0, .int 0]))] H := hP
  have hD : va_D A [(h0, .inr (4, [.ref q_1, .int 0, .ref q_2, .ref q_3, .ref q_4])), (q_1, .inl (cS, 20, .inr (.inr (.inr (.inr f_44))))), (q_46, .inr (7, [.ref k1_47, .ref k2_48, .int 0, .int 0, .int 0, .int 0, .int 0]))] := hD
  refine W.widen (k := 31) (n := 3245) (Nat.le_of_ble_eq_true rfl) (Nat.le_of_ble_eq_true rfl) ?_
  refine sk_astO (ws' := fun f_49 => [(h0, .inr (4, [.ref q_1, .int 0, .ref q_2, .ref q_3, .ref q_4])), (q_1, .inl (cS, 20, .inr (.inr (.inr (.inr f_49))))), (q_46, .inr (7, [.ref k1_47, .ref k2_48, .int 0, .int 0, .int 0, .int 0, .int 0]))]) (r := (RX7, TX7, 7)) hx hb hK hP hD hS 1 4 2 7 rfl rfl rfl rfl (by unfold vp_in; decide) (fun _ => rfl) dX4_init_65 (fun f_49 H locs hP hD hS => ?_)
  refine lv_iinc (v := 9) (lv' := [(1, .int 9), (0, .ref h0)]) hx hb dX4_init_66 hl (k := 0) rfl (by decide) (by decide) rfl (fun ls hl => ?_)
  refine lv_goto (tgt := 47) hx hb dX4_init_69 (by decide) ?_
  have hP := hP.sub (ws' := [(h0, .inr (4, [.ref q_1, .int 0, .ref q_2, .ref q_3, .ref q_4])), (q_1, .inl (cS, 20, .inr (.inr (.inr (.inr f_49)))))]) [0, 1] rfl
  have hD := hD.sub (ws' := [(h0, .inr (4, [.ref q_1, .int 0, .ref q_2, .ref q_3, .ref q_4])), (q_1, .inl (cS, 20, .inr (.inr (.inr (.inr f_49)))))]) [0, 1] (by decide) rfl
  refine lv_iload_n hx hb dX4_init_47 rfl (lv_at hl 0 rfl) ?_
  refine lv_bipush (v := 20) hx hb dX4_init_48 (by decide) ?_
  refine lv_icmp_ge (tgt := 72) hx hb dX4_init_50 (by decide) (fun c => absurd c (by decide)) (fun c_50 => ?_)
  refine lv_aload_n hx hb dX4_init_53 rfl (lv_at hl 1 rfl) ?_
  refine sk_get (v := .ref q_1) (C := RX4) (T := TX4) (N := 5) hx hb hts inlX4 hown hK hP 0 rfl rfl 0 (by decide) w_2_40 rfl dX4_init_54 ?_
  refine lv_iload_n hx hb dX4_init_57 rfl (lv_at hl 0 rfl) ?_
  refine sk_new (ci := 7) (fs := [.null, .null, .int 0, .int 0, .int 0, .int 0, .int 0]) (C := RX7) (T := TX7) (N := 7) (k1 := 32) (n1 := 3252) hx hb hts inlX7 tyX7 tyX7_ok hown w_2_37 w_1_225 w_1_10 hK hP hD hS hA rfl (fun j hj => by rcases (show j = 0 ∨ j = 1 ∨ j = 2 ∨ j = 3 ∨ j = 4 ∨ j = 5 ∨ j = 6 by omega) with rfl | rfl | rfl | rfl | rfl | rfl | rfl <;> rfl) (Nat.le_of_ble_eq_true rfl) (Nat.le_of_ble_eq_true rfl) (Nat.le_of_ble_eq_true rfl) (Nat.le_of_ble_eq_true rfl) dX4_init_58 (fun q_51 H hP hD hS => ?_)
  have hP : va_P D vwCl [(h0, .inr (4, [.ref q_1, .int 0, .ref q_2, .ref q_3, .ref q_4])), (q_1, .inl (cS, 20, .inr (.inr (.inr (.inr f_49))))), (q_51, .inr (7, [.null, .null, .int 0, .int 0, .int 0, .int 0, .int 0]))] H := hP
  have hD : va_D A [(h0, .inr (4, [.ref q_1, .int 0, .ref q_2, .ref q_3, .ref q_4])), (q_1, .inl (cS, 20, .inr (.inr (.inr (.inr f_49))))), (q_51, .inr (7, [.null, .null, .int 0, .int 0, .int 0, .int 0, .int 0]))] := hD
  refine lv_dup hx hb dX4_init_61 rfl ?_
  refine sk_INv (n := 0) (rest := [.ref q_51, .int 9, .ref q_1]) (wr := [(h0, .inr (4, [.ref q_1, .int 0, .ref q_2, .ref q_3, .ref q_4])), (q_1, .inl (cS, 20, .inr (.inr (.inr (.inr f_49)))))]) ⟨hx, hb, hml, hown, hts⟩ hl.1 (c_State_init l D cI cJ cC cZ cS q_51) hK.2.2.2.2.2.2.1 w_1_227 w_1_10 w_1_228 rfl (by decide +kernel) ⟨⟨(Nat.le_of_ble_eq_true rfl), (Nat.le_of_ble_eq_true rfl)⟩, (Nat.le_of_ble_eq_true rfl), (Nat.le_of_ble_eq_true rfl)⟩ hK hP hD hS hA [2] [0, 1] rfl rfl (by decide) (by decide) (by decide) rfl rfl (Nat.le_of_ble_eq_true rfl) dX4_init_62 (fun u H locs hw hP hD hS => ?_)
  obtain ⟨k1_52, k2_53, rfl⟩ := hw
  have hP : va_P D vwCl [(h0, .inr (4, [.ref q_1, .int 0, .ref q_2, .ref q_3, .ref q_4])), (q_1, .inl (cS, 20, .inr (.inr (.inr (.inr f_49))))), (q_51, .inr (7, [.ref k1_52, .ref k2_53, .int 0, .int 0, .int 0, .int 0, .int 0]))] H := hP
  have hD : va_D A [(h0, .inr (4, [.ref q_1, .int 0, .ref q_2, .ref q_3, .ref q_4])), (q_1, .inl (cS, 20, .inr (.inr (.inr (.inr f_49))))), (q_51, .inr (7, [.ref k1_52, .ref k2_53, .int 0, .int 0, .int 0, .int 0, .int 0]))] := hD
  refine W.widen (k := 34) (n := 3270) (Nat.le_of_ble_eq_true rfl) (Nat.le_of_ble_eq_true rfl) ?_
  refine sk_astO (ws' := fun f_54 => [(h0, .inr (4, [.ref q_1, .int 0, .ref q_2, .ref q_3, .ref q_4])), (q_1, .inl (cS, 20, .inr (.inr (.inr (.inr f_54))))), (q_51, .inr (7, [.ref k1_52, .ref k2_53, .int 0, .int 0, .int 0, .int 0, .int 0]))]) (r := (RX7, TX7, 7)) hx hb hK hP hD hS 1 4 2 7 rfl rfl rfl rfl (by unfold vp_in; decide) (fun _ => rfl) dX4_init_65 (fun f_54 H locs hP hD hS => ?_)
  refine lv_iinc (v := 10) (lv' := [(1, .int 10), (0, .ref h0)]) hx hb dX4_init_66 hl (k := 0) rfl (by decide) (by decide) rfl (fun ls hl => ?_)
  refine lv_goto (tgt := 47) hx hb dX4_init_69 (by decide) ?_
  have hP := hP.sub (ws' := [(h0, .inr (4, [.ref q_1, .int 0, .ref q_2, .ref q_3, .ref q_4])), (q_1, .inl (cS, 20, .inr (.inr (.inr (.inr f_54)))))]) [0, 1] rfl
  have hD := hD.sub (ws' := [(h0, .inr (4, [.ref q_1, .int 0, .ref q_2, .ref q_3, .ref q_4])), (q_1, .inl (cS, 20, .inr (.inr (.inr (.inr f_54)))))]) [0, 1] (by decide) rfl
  refine lv_iload_n hx hb dX4_init_47 rfl (lv_at hl 0 rfl) ?_
  refine lv_bipush (v := 20) hx hb dX4_init_48 (by decide) ?_
  refine lv_icmp_ge (tgt := 72) hx hb dX4_init_50 (by decide) (fun c => absurd c (by decide)) (fun c_55 => ?_)
  refine lv_aload_n hx hb dX4_init_53 rfl (lv_at hl 1 rfl) ?_
  refine sk_get (v := .ref q_1) (C := RX4) (T := TX4) (N := 5) hx hb hts inlX4 hown hK hP 0 rfl rfl 0 (by decide) w_2_40 rfl dX4_init_54 ?_
  refine lv_iload_n hx hb dX4_init_57 rfl (lv_at hl 0 rfl) ?_
  refine sk_new (ci := 7) (fs := [.null, .null, .int 0, .int 0, .int 0, .int 0, .int 0]) (C := RX7) (T := TX7) (N := 7) (k1 := 35) (n1 := 3277) hx hb hts inlX7 tyX7 tyX7_ok hown w_2_37 w_1_225 w_1_10 hK hP hD hS hA rfl (fun j hj => by rcases (show j = 0 ∨ j = 1 ∨ j = 2 ∨ j = 3 ∨ j = 4 ∨ j = 5 ∨ j = 6 by omega) with rfl | rfl | rfl | rfl | rfl | rfl | rfl <;> rfl) (Nat.le_of_ble_eq_true rfl) (Nat.le_of_ble_eq_true rfl) (Nat.le_of_ble_eq_true rfl) (Nat.le_of_ble_eq_true rfl) dX4_init_58 (fun q_56 H hP hD hS => ?_)
  have hP : va_P D vwCl [(h0, .inr (4, [.ref q_1, .int 0, .ref q_2, .ref q_3, .ref q_4])), (q_1, .inl (cS, 20, .inr (.inr (.inr (.inr f_54))))), (q_56, .inr (7, [.null, .null, .int 0, .int 0, .int 0, .int 0, .int 0]))] H := hP
  have hD : va_D A [(h0, .inr (4, [.ref q_1, .int 0, .ref q_2, .ref q_3, .ref q_4])), (q_1, .inl (cS, 20, .inr (.inr (.inr (.inr f_54))))), (q_56, .inr (7, [.null, .null, .int 0, .int 0, .int 0, .int 0, .int 0]))] := hD
  refine lv_dup hx hb dX4_init_61 rfl ?_
  refine sk_INv (n := 0) (rest := [.ref q_56, .int 10, .ref q_1]) (wr := [(h0, .inr (4, [.ref q_1, .int 0, .ref q_2, .ref q_3, .ref q_4])), (q_1, .inl (cS, 20, .inr (.inr (.inr (.inr f_54)))))]) ⟨hx, hb, hml, hown, hts⟩ hl.1 (c_State_init l D cI cJ cC cZ cS q_56) hK.2.2.2.2.2.2.1 w_1_227 w_1_10 w_1_228 rfl (by decide +kernel) ⟨⟨(Nat.le_of_ble_eq_true rfl), (Nat.le_of_ble_eq_true rfl)⟩, (Nat.le_of_ble_eq_true rfl), (Nat.le_of_ble_eq_true rfl)⟩ hK hP hD hS hA [2] [0, 1] rfl rfl (by decide) (by decide) (by decide) rfl rfl (Nat.le_of_ble_eq_true rfl) dX4_init_62 (fun u H locs hw hP hD hS => ?_)
  obtain ⟨k1_57, k2_58, rfl⟩ := hw
  have hP : va_P D vwCl [(h0, .inr (4, [.ref q_1, .int 0, .ref q_2, .ref q_3, .ref q_4])), (q_1, .inl (cS, 20, .inr (.inr (.inr (.inr f_54))))), (q_56, .inr (7, [.ref k1_57, .ref k2_58, .int 0, .int 0, .int 0, .int 0, .int 0]))] H := hP
  have hD : va_D A [(h0, .inr (4, [.ref q_1, .int 0, .ref q_2, .ref q_3, .ref q_4])), (q_1, .inl (cS, 20, .inr (.inr (.inr (.inr f_54))))), (q_56, .inr (7, [.ref k1_57, .ref k2_58, .int 0, .int 0, .int 0, .int 0, .int 0]))] := hD
  refine W.widen (k := 37) (n := 3295) (Nat.le_of_ble_eq_true rfl) (Nat.le_of_ble_eq_true rfl) ?_
  refine sk_astO (ws' := fun f_59 => [(h0, .inr (4, [.ref q_1, .int 0, .ref q_2, .ref q_3, .ref q_4])), (q_1, .inl (cS, 20, .inr (.inr (.inr (.inr f_59))))), (q_56, .inr (7, [.ref k1_57, .ref k2_58, .int 0, .int 0, .int 0, .int 0, .int 0]))]) (r := (RX7, TX7, 7)) hx hb hK hP hD hS 1 4 2 7 rfl rfl rfl rfl (by unfold vp_in; decide) (fun _ => rfl) dX4_init_65 (fun f_59 H locs hP hD hS => ?_)
  refine lv_iinc (v := 11) (lv' := [(1, .int 11), (0, .ref h0)]) hx hb dX4_init_66 hl (k := 0) rfl (by decide) (by decide) rfl (fun ls hl => ?_)
  refine lv_goto (tgt := 47) hx hb dX4_init_69 (by decide) ?_
  have hP := hP.sub (ws' := [(h0, .inr (4, [.ref q_1, .int 0, .ref q_2, .ref q_3, .ref q_4])), (q_1, .inl (cS, 20, .inr (.inr (.inr (.inr f_59)))))]) [0, 1] rfl
  have hD := hD.sub (ws' := [(h0, .inr (4, [.ref q_1, .int 0, .ref q_2, .ref q_3, .ref q_4])), (q_1, .inl (cS, 20, .inr (.inr (.inr (.inr f_59)))))]) [0, 1] (by decide) rfl
  refine lv_iload_n hx hb dX4_init_47 rfl (lv_at hl 0 rfl) ?_
  refine lv_bipush (v := 20) hx hb dX4_init_48 (by decide) ?_
  refine lv_icmp_ge (tgt := 72) hx hb dX4_init_50 (by decide) (fun c => absurd c (by decide)) (fun c_60 => ?_)
  refine lv_aload_n hx hb dX4_init_53 rfl (lv_at hl 1 rfl) ?_
  refine sk_get (v := .ref q_1) (C := RX4) (T := TX4) (N := 5) hx hb hts inlX4 hown hK hP 0 rfl rfl 0 (by decide) w_2_40 rfl dX4_init_54 ?_
  refine lv_iload_n hx hb dX4_init_57 rfl (lv_at hl 0 rfl) ?_
  refine sk_new (ci := 7) (fs := [.null, .null, .int 0, .int 0, .int 0, .int 0, .int 0]) (C := RX7) (T := TX7) (N := 7) (k1 := 38) (n1 := 3302) hx hb hts inlX7 tyX7 tyX7_ok hown w_2_37 w_1_225 w_1_10 hK hP hD hS hA rfl (fun j hj => by rcases (show j = 0 ∨ j = 1 ∨ j = 2 ∨ j = 3 ∨ j = 4 ∨ j = 5 ∨ j = 6 by omega) with rfl | rfl | rfl | rfl | rfl | rfl | rfl <;> rfl) (Nat.le_of_ble_eq_true rfl) (Nat.le_of_ble_eq_true rfl) (Nat.le_of_ble_eq_true rfl) (Nat.le_of_ble_eq_true rfl) dX4_init_58 (fun q_61 H hP hD hS => ?_)
  have hP : va_P D vwCl [(h0, .inr (4, [.ref q_1, .int 0, .ref q_2, .ref q_3, .ref q_4])), (q_1, .inl (cS, 20, .inr (.inr (.inr (.inr f_59))))), (q_61, .inr (7, [.null, .null, .int 0, .int 0, .int 0, .int 0, .int 0]))] H := hP
  have hD : va_D A [(h0, .inr (4, [.ref q_1, .int 0, .ref q_2, .ref q_3, .ref q_4])), (q_1, .inl (cS, 20, .inr (.inr (.inr (.inr f_59))))), (q_61, .inr (7, [.null, .null, .int 0, .int 0, .int 0, .int 0, .int 0]))] := hD
  refine lv_dup hx hb dX4_init_61 rfl ?_
  refine sk_INv (n := 0) (rest := [.ref q_61, .int 11, .ref q_1]) (wr := [(h0, .inr (4, [.ref q_1, .int 0, .ref q_2, .ref q_3, .ref q_4])), (q_1, .inl (cS, 20, .inr (.inr (.inr (.inr f_59)))))]) ⟨hx, hb, hml, hown, hts⟩ hl.1 (c_State_init l D cI cJ cC cZ cS q_61) hK.2.2.2.2.2.2.1 w_1_227 w_1_10 w_1_228 rfl (by decide +kernel) ⟨⟨(Nat.le_of_ble_eq_true rfl), (Nat.le_of_ble_eq_true rfl)⟩, (Nat.le_of_ble_eq_true rfl), (Nat.le_of_ble_eq_true rfl)⟩ hK hP hD hS hA [2] [0, 1] rfl rfl (by decide) (by decide) (by decide) rfl rfl (Nat.le_of_ble_eq_true rfl) dX4_init_62 (fun u H locs hw hP hD hS => ?_)
  obtain ⟨k1_62, k2_63, rfl⟩ := hw
  have hP : va_P D vwCl [(h0, .inr (4, [.ref q_1, .int 0, .ref q_2, .ref q_3, .ref q_4])), (q_1, .inl (cS, 20, .inr (.inr (.inr (.inr f_59))))), (q_61, .inr (7, [.ref k1_62, .ref k2_63, .int 0, .int 0, .int 0, .int 0, .int 0]))] H := hP
  have hD : va_D A [(h0, .inr (4, [.ref q_1, .int 0, .ref q_2, .ref q_3, .ref q_4])), (q_1, .inl (cS, 20, .inr (.inr (.inr (.inr f_59))))), (q_61, .inr (7, [.ref k1_62, .ref k2_63, .int 0, .int 0, .int 0, .int 0, .int 0]))] := hD
  refine W.widen (k := 40) (n := 3320) (Nat.le_of_ble_eq_true rfl) (Nat.le_of_ble_eq_true rfl) ?_
  refine sk_astO (ws' := fun f_64 => [(h0, .inr (4, [.ref q_1, .int 0, .ref q_2, .ref q_3, .ref q_4])), (q_1, .inl (cS, 20, .inr (.inr (.inr (.inr f_64))))), (q_61, .inr (7, [.ref k1_62, .ref k2_63, .int 0, .int 0, .int 0, .int 0, .int 0]))]) (r := (RX7, TX7, 7)) hx hb hK hP hD hS 1 4 2 7 rfl rfl rfl rfl (by unfold vp_in; decide) (fun _ => rfl) dX4_init_65 (fun f_64 H locs hP hD hS => ?_)
  refine lv_iinc (v := 12) (lv' := [(1, .int 12), (0, .ref h0)]) hx hb dX4_init_66 hl (k := 0) rfl (by decide) (by decide) rfl (fun ls hl => ?_)
  refine lv_goto (tgt := 47) hx hb dX4_init_69 (by decide) ?_
  have hP := hP.sub (ws' := [(h0, .inr (4, [.ref q_1, .int 0, .ref q_2, .ref q_3, .ref q_4])), (q_1, .inl (cS, 20, .inr (.inr (.inr (.inr f_64)))))]) [0, 1] rfl
  have hD := hD.sub (ws' := [(h0, .inr (4, [.ref q_1, .int 0, .ref q_2, .ref q_3, .ref q_4])), (q_1, .inl (cS, 20, .inr (.inr (.inr (.inr f_64)))))]) [0, 1] (by decide) rfl
  refine lv_iload_n hx hb dX4_init_47 rfl (lv_at hl 0 rfl) ?_
  refine lv_bipush (v := 20) hx hb dX4_init_48 (by decide) ?_
  refine lv_icmp_ge (tgt := 72) hx hb dX4_init_50 (by decide) (fun c => absurd c (by decide)) (fun c_65 => ?_)
  refine lv_aload_n hx hb dX4_init_53 rfl (lv_at hl 1 rfl) ?_
  refine sk_get (v := .ref q_1) (C := RX4) (T := TX4) (N := 5) hx hb hts inlX4 hown hK hP 0 rfl rfl 0 (by decide) w_2_40 rfl dX4_init_54 ?_
  refine lv_iload_n hx hb dX4_init_57 rfl (lv_at hl 0 rfl) ?_
  refine sk_new (ci := 7) (fs := [.null, .null, .int 0, .int 0, .int 0, .int 0, .int 0]) (C := RX7) (T := TX7) (N := 7) (k1 := 41) (n1 := 3327) hx hb hts inlX7 tyX7 tyX7_ok hown w_2_37 w_1_225 w_1_10 hK hP hD hS hA rfl (fun j hj => by rcases (show j = 0 ∨ j = 1 ∨ j = 2 ∨ j = 3 ∨ j = 4 ∨ j = 5 ∨ j = 6 by omega) with rfl | rfl | rfl | rfl | rfl | rfl | rfl <;> rfl) (Nat.le_of_ble_eq_true rfl) (Nat.le_of_ble_eq_true rfl) (Nat.le_of_ble_eq_true rfl) (Nat.le_of_ble_eq_true rfl) dX4_init_58 (fun q_66 H hP hD hS => ?_)
  have hP : va_P D vwCl [(h0, .inr (4, [.ref q_1, .int 0, .ref q_2, .ref q_3, .ref q_4])), (q_1, .inl (cS, 20, .inr (.inr (.inr (.inr f_64))))), (q_66, .inr (7, [.null, .null, .int 0, .int 0, .int 0, .int 0, .int 0]))] H := hP
  have hD : va_D A [(h0, .inr (4, [.ref q_1, .int 0, .ref q_2, .ref q_3, .ref q_4])), (q_1, .inl (cS, 20, .inr (.inr (.inr (.inr f_64))))), (q_66, .inr (7, [.null, .null, .int 0, .int 0, .int 0, .int 0, .int 0]))] := hD
  refine lv_dup hx hb dX4_init_61 rfl ?_
  refine sk_INv (n := 0) (rest := [.ref q_66, .int 12, .ref q_1]) (wr := [(h0, .inr (4, [.ref q_1, .int 0, .ref q_2, .ref q_3, .ref q_4])), (q_1, .inl (cS, 20, .inr (.inr (.inr (.inr f_64)))))]) ⟨hx, hb, hml, hown, hts⟩ hl.1 (c_State_init l D cI cJ cC cZ cS q_66) hK.2.2.2.2.2.2.1 w_1_227 w_1_10 w_1_228 rfl (by decide +kernel) ⟨⟨(Nat.le_of_ble_eq_true rfl), (Nat.le_of_ble_eq_true rfl)⟩, (Nat.le_of_ble_eq_true rfl), (Nat.le_of_ble_eq_true rfl)⟩ hK hP hD hS hA [2] [0, 1] rfl rfl (by decide) (by decide) (by decide) rfl rfl (Nat.le_of_ble_eq_true rfl) dX4_init_62 (fun u H locs hw hP hD hS => ?_)
  obtain ⟨k1_67, k2_68, rfl⟩ := hw
  have hP : va_P D vwCl [(h0, .inr (4, [.ref q_1, .int 0, .ref q_2, .ref q_3, .ref q_4])), (q_1, .inl (cS, 20, .inr (.inr (.inr (.inr f_64))))), (q_66, .inr (7, [.ref k1_67, .ref k2_68, .int 0, .int 0, .int 0, .int 0, .int 0]))] H := hP
  have hD : va_D A [(h0, .inr (4, [.ref q_1, .int 0, .ref q_2, .ref q_3, .ref q_4])), (q_1, .inl (cS, 20, .inr (.inr (.inr (.inr f_64))))), (q_66, .inr (7, [.ref k1_67, .ref k2_68, .int 0, .int 0, .int 0, .int 0, .int 0]))] := hD
  refine W.widen (k := 43) (n := 3345) (Nat.le_of_ble_eq_true rfl) (Nat.le_of_ble_eq_true rfl) ?_
  refine sk_astO (ws' := fun f_69 => [(h0, .inr (4, [.ref q_1, .int 0, .ref q_2, .ref q_3, .ref q_4])), (q_1, .inl (cS, 20, .inr (.inr (.inr (.inr f_69))))), (q_66, .inr (7, [.ref k1_67, .ref k2_68, .int 0, .int 0, .int 0, .int 0, .int 0]))]) (r := (RX7, TX7, 7)) hx hb hK hP hD hS 1 4 2 7 rfl rfl rfl rfl (by unfold vp_in; decide) (fun _ => rfl) dX4_init_65 (fun f_69 H locs hP hD hS => ?_)
  refine lv_iinc (v := 13) (lv' := [(1, .int 13), (0, .ref h0)]) hx hb dX4_init_66 hl (k := 0) rfl (by decide) (by decide) rfl (fun ls hl => ?_)
  refine lv_goto (tgt := 47) hx hb dX4_init_69 (by decide) ?_
  have hP := hP.sub (ws' := [(h0, .inr (4, [.ref q_1, .int 0, .ref q_2, .ref q_3, .ref q_4])), (q_1, .inl (cS, 20, .inr (.inr (.inr (.inr f_69)))))]) [0, 1] rfl
  have hD := hD.sub (ws' := [(h0, .inr (4, [.ref q_1, .int 0, .ref q_2, .ref q_3, .ref q_4])), (q_1, .inl (cS, 20, .inr (.inr (.inr (.inr f_69)))))]) [0, 1] (by decide) rfl
  refine lv_iload_n hx hb dX4_init_47 rfl (lv_at hl 0 rfl) ?_
  refine lv_bipush (v := 20) hx hb dX4_init_48 (by decide) ?_
  refine lv_icmp_ge (tgt := 72) hx hb dX4_init_50 (by decide) (fun c => absurd c (by decide)) (fun c_70 => ?_)
  refine lv_aload_n hx hb dX4_init_53 rfl (lv_at hl 1 rfl) ?_
  refine sk_get (v := .ref q_1) (C := RX4) (T := TX4) (N := 5) hx hb hts inlX4 hown hK hP 0 rfl rfl 0 (by decide) w_2_40 rfl dX4_init_54 ?_
  refine lv_iload_n hx hb dX4_init_57 rfl (lv_at hl 0 rfl) ?_
  refine sk_new (ci := 7) (fs := [.null, .null, .int 0, .int 0, .int 0, .int 0, .int 0]) (C := RX7) (T := TX7) (N := 7) (k1 := 44) (n1 := 3352) hx hb hts inlX7 tyX7 tyX7_ok hown w_2_37 w_1_225 w_1_10 hK hP hD hS hA rfl (fun j hj => by rcases (show j = 0 ∨ j = 1 ∨ j = 2 ∨ j = 3 ∨ j = 4 ∨ j = 5 ∨ j = 6 by omega) with rfl | rfl | rfl | rfl | rfl | rfl | rfl <;> rfl) (Nat.le_of_ble_eq_true rfl) (Nat.le_of_ble_eq_true rfl) (Nat.le_of_ble_eq_true rfl) (Nat.le_of_ble_eq_true rfl) dX4_init_58 (fun q_71 H hP hD hS => ?_)
  have hP : va_P D vwCl [(h0, .inr (4, [.ref q_1, .int 0, .ref q_2, .ref q_3, .ref q_4])), (q_1, .inl (cS, 20, .inr (.inr (.inr (.inr f_69))))), (q_71, .inr (7, [.null, .null, .int 0, .int 0, .int 0, .int 0, .int 0]))] H := hP
  have hD : va_D A [(h0, .inr (4, [.ref q_1, .int 0, .ref q_2, .ref q_3, .ref q_4])), (q_1, .inl (cS, 20, .inr (.inr (.inr (.inr f_69))))), (q_71, .inr (7, [.null, .null, .int 0, .int 0, .int 0, .int 0, .int 0]))] := hD
  refine lv_dup hx hb dX4_init_61 rfl ?_
  refine sk_INv (n := 0) (rest := [.ref q_71, .int 13, .ref q_1]) (wr := [(h0, .inr (4, [.ref q_1, .int 0, .ref q_2, .ref q_3, .ref q_4])), (q_1, .inl (cS, 20, .inr (.inr (.inr (.inr f_69)))))]) ⟨hx, hb, hml, hown, hts⟩ hl.1 (c_State_init l D cI cJ cC cZ cS q_71) hK.2.2.2.2.2.2.1 w_1_227 w_1_10 w_1_228 rfl (by decide +kernel) ⟨⟨(Nat.le_of_ble_eq_true rfl), (Nat.le_of_ble_eq_true rfl)⟩, (Nat.le_of_ble_eq_true rfl), (Nat.le_of_ble_eq_true rfl)⟩ hK hP hD hS hA [2] [0, 1] rfl rfl (by decide) (by decide) (by decide) rfl rfl (Nat.le_of_ble_eq_true rfl) dX4_init_62 (fun u H locs hw hP hD hS => ?_)
  obtain ⟨k1_72, k2_73, rfl⟩ := hw
  have hP : va_P D vwCl [(h0, .inr (4, [.ref q_1, .int 0, .ref q_2, .ref q_3, .ref q_4])), (q_1, .inl (cS, 20, .inr (.inr (.inr (.inr f_69))))), (q_71, .inr (7, [.ref k1_72, .ref k2_73, .int 0, .int 0, .int 0, .int 0, .int 0]))] H := hP
  have hD : va_D A [(h0, .inr (4, [.ref q_1, .int 0, .ref q_2, .ref q_3, .ref q_4])), (q_1, .inl (cS, 20, .inr (.inr (.inr (.inr f_69))))), (q_71, .inr (7, [.ref k1_72, .ref k2_73, .int 0, .int 0, .int 0, .int 0, .int 0]))] := hD
  refine W.widen (k := 46) (n := 3370) (Nat.le_of_ble_eq_true rfl) (Nat.le_of_ble_eq_true rfl) ?_
  refine sk_astO (ws' := fun f_74 => [(h0, .inr (4, [.ref q_1, .int 0, .ref q_2, .ref q_3, .ref q_4])), (q_1, .inl (cS, 20, .inr (.inr (.inr (.inr f_74))))), (q_71, .inr (7, [.ref k1_72, .ref k2_73, .int 0, .int 0, .int 0, .int 0, .int 0]))]) (r := (RX7, TX7, 7)) hx hb hK hP hD hS 1 4 2 7 rfl rfl rfl rfl (by unfold vp_in; decide) (fun _ => rfl) dX4_init_65 (fun f_74 H locs hP hD hS => ?_)
  refine lv_iinc (v := 14) (lv' := [(1, .int 14), (0, .ref h0)]) hx hb dX4_init_66 hl (k := 0) rfl (by decide) (by decide) rfl (fun ls hl => ?_)
  refine lv_goto (tgt := 47) hx hb dX4_init_69 (by decide) ?_
  have hP := hP.sub (ws' := [(h0, .inr (4, [.ref q_1, .int 0, .ref q_2, .ref q_3, .ref q_4])), (q_1, .inl (cS, 20, .inr (.inr (.inr (.inr f_74)))))]) [0, 1] rfl
  have hD := hD.sub (ws' := [(h0, .inr (4, [.ref q_1, .int 0, .ref q_2, .ref q_3, .ref q_4])), (q_1, .inl (cS, 20, .inr (.inr (.inr (.inr f_74)))))]) [0, 1] (by decide) rfl
  refine lv_iload_n hx hb dX4_init_47 rfl (lv_at hl 0 rfl) ?_
  refine lv_bipush (v := 20) hx hb dX4_init_48 (by decide) ?_
  refine lv_icmp_ge (tgt := 72) hx hb dX4_init_50 (by decide) (fun c => absurd c (by decide)) (fun c_75 => ?_)
  refine lv_aload_n hx hb dX4_init_53 rfl (lv_at hl 1 rfl) ?_
  refine sk_get (v := .ref q_1) (C := RX4) (T := TX4) (N := 5) hx hb hts inlX4 hown hK hP 0 rfl rfl 0 (by decide) w_2_40 rfl dX4_init_54 ?_
  refine lv_iload_n hx hb dX4_init_57 rfl (lv_at hl 0 rfl) ?_
  refine sk_new (ci := 7) (fs := [.null, .null, .int 0, .int 0, .int 0, .int 0, .int 0]) (C := RX7) (T := TX7) (N := 7) (k1 := 47) (n1 := 3377) hx hb hts inlX7 tyX7 tyX7_ok hown w_2_37 w_1_225 w_1_10 hK hP hD hS hA rfl (fun j hj => by rcases (show j = 0 ∨ j = 1 ∨ j = 2 ∨ j = 3 ∨ j = 4 ∨ j = 5 ∨ j = 6 by omega) with rfl | rfl | rfl | rfl | rfl | rfl | rfl <;> rfl) (Nat.le_of_ble_eq_true rfl) (Nat.le_of_ble_eq_true rfl) (Nat.le_of_ble_eq_true rfl) (Nat.le_of_ble_eq_true rfl) dX4_init_58 (fun q_76 H hP hD hS => ?_)
  have hP : va_P D vwCl [(h0, .inr (4, [.ref q_1, .int 0, .ref q_2, .ref q_3, .ref q_4])), (q_1, .inl (cS, 20, .inr (.inr (.inr (.inr f_74))))), (q_76, .inr (7, [.null, .null, .int 0, .int 0, .int 0, .int 0, .int 0]))] H := hP
  have hD : va_D A [(h0, .inr (4, [.ref q_1, .int 0, .ref q_2, .ref q_3, .ref q_4])), (q_1, .inl (cS, 20, .inr (.inr (.inr (.inr f_74))))), (q_76, .inr (7, [.null, .null, .int 0, .int 0, .int 0, .int 0, .int 0]))] := hD
  refine lv_dup hx hb dX4_init_61 rfl ?_
  refine sk_INv (n := 0) (rest := [.ref q_76, .int 14, .ref q_1]) (wr := [(h0, .inr (4, [.ref q_1, .int 0, .ref q_2, .ref q_3, .ref q_4])), (q_1, .inl (cS, 20, .inr (.inr (.inr (.inr f_74)))))]) ⟨hx, hb, hml, hown, hts⟩ hl.1 (c_State_init l D cI cJ cC cZ cS q_76) hK.2.2.2.2.2.2.1 w_1_227 w_1_10 w_1_228 rfl (by decide +kernel) ⟨⟨(Nat.le_of_ble_eq_true rfl), (Nat.le_of_ble_eq_true rfl)⟩, (Nat.le_of_ble_eq_true rfl), (Nat.le_of_ble_eq_true rfl)⟩ hK hP hD hS hA [2] [0, 1] rfl rfl (by decide) (by decide) (by decide) rfl rfl (Nat.le_of_ble_eq_true rfl) dX4_init_62 (fun u H locs hw hP hD hS => ?_)
  obtain ⟨k1_77, k2_78, rfl⟩ := hw
  have hP : va_P D vwCl [(h0, .inr (4, [.ref q_1, .int 0, .ref q_2, .ref q_3, .ref q_4])), (q_1, .inl (cS, 20, .inr (.inr (.inr (.inr f_74))))), (q_76, .inr (7, [.ref k1_77, .ref k2_78, .int 0, .int 0, .int 0, .int 0, .int 0]))] H := hP
  have hD : va_D A [(h0, .inr (4, [.ref q_1, .int 0, .ref q_2, .ref q_3, .ref q_4])), (q_1, .inl (cS, 20, .inr (.inr (.inr (.inr f_74))))), (q_76, .inr (7, [.ref k1_77, .ref k2_78, .int 0, .int 0, .int 0, .int 0, .int 0]))] := hD
  refine W.widen (k := 49) (n := 3395) (Nat.le_of_ble_eq_true rfl) (Nat.le_of_ble_eq_true rfl) ?_
  refine sk_astO (ws' := fun f_79 => [(h0, .inr (4, [.ref q_1, .int 0, .ref q_2, .ref q_3, .ref q_4])), (q_1, .inl (cS, 20, .inr (.inr (.inr (.inr f_79))))), (q_76, .inr (7, [.ref k1_77, .ref k2_78, .int 0, .int 0, .int 0, .int 0, .int 0]))]) (r := (RX7, TX7, 7)) hx hb hK hP hD hS 1 4 2 7 rfl rfl rfl rfl (by unfold vp_in; decide) (fun _ => rfl) dX4_init_65 (fun f_79 H locs hP hD hS => ?_)
  refine lv_iinc (v := 15) (lv' := [(1, .int 15), (0, .ref h0)]) hx hb dX4_init_66 hl (k := 0) rfl (by decide) (by decide) rfl (fun ls hl => ?_)
  refine lv_goto (tgt := 47) hx hb dX4_init_69 (by decide) ?_
  have hP := hP.sub (ws' := [(h0, .inr (4, [.ref q_1, .int 0, .ref q_2, .ref q_3, .ref q_4])), (q_1, .inl (cS, 20, .inr (.inr (.inr (.inr f_79)))))]) [0, 1] rfl
  have hD := hD.sub (ws' := [(h0, .inr (4, [.ref q_1, .int 0, .ref q_2, .ref q_3, .ref q_4])), (q_1, .inl (cS, 20, .inr (.inr (.inr (.inr f_79)))))]) [0, 1] (by decide) rfl
  refine lv_iload_n hx hb dX4_init_47 rfl (lv_at hl 0 rfl) ?_
  refine lv_bipush (v := 20) hx hb dX4_init_48 (by decide) ?_
  refine lv_icmp_ge (tgt := 72) hx hb dX4_init_50 (by decide) (fun c => absurd c (by decide)) (fun c_80 => ?_)
  refine lv_aload_n hx hb dX4_init_53 rfl (lv_at hl 1 rfl) ?_
  refine sk_get (v := .ref q_1) (C := RX4) (T := TX4) (N := 5) hx hb hts inlX4 hown hK hP 0 rfl rfl 0 (by decide) w_2_40 rfl dX4_init_54 ?_
  refine lv_iload_n hx hb dX4_init_57 rfl (lv_at hl 0 rfl) ?_
  refine sk_new (ci := 7) (fs := [.null, .null, .int 0, .int 0, .int 0, .int 0, .int 0]) (C := RX7) (T := TX7) (N := 7) (k1 := 50) (n1 := 3402) hx hb hts inlX7 tyX7 tyX7_ok hown w_2_37 w_1_225 w_1_10 hK hP hD hS hA rfl (fun j hj => by rcases (show j = 0 ∨ j = 1 ∨ j = 2 ∨ j = 3 ∨ j = 4 ∨ j = 5 ∨ j = 6 by omega) with rfl | rfl | rfl | rfl | rfl | rfl | rfl <;> rfl) (Nat.le_of_ble_eq_true rfl) (Nat.le_of_ble_eq_true rfl) (Nat.le_of_ble_eq_true rfl) (Nat.le_of_ble_eq_true rfl) dX4_init_58 (fun q_81 H hP hD hS => ?_)
  have hP : va_P D vwCl [(h0, .inr (4, [.ref q_1, .int 0, .ref q_2, .ref q_3, .ref q_4])), (q_1, .inl (cS, 20, .inr (.inr (.inr (.inr f_79))))), (q_81, .inr (7, [.null, .null, .int 0, .int 0, .int 0, .int 0, .int 0]))] H := hP
  have hD : va_D A [(h0, .inr (4, [.ref q_1, .int 0, .ref q_2, .ref q_3, .ref q_4])), (q_1, .inl (cS, 20, .inr (.inr (.inr (.inr f_79))))), (q_81, .inr (7, [.null, .null, .int 0, .int 0, .int 0, .int 0, .int 0]))] := hD
  refine lv_dup hx hb dX4_init_61 rfl ?_
  refine sk_INv (n := 0) (rest := [.ref q_81, .int 15, .ref q_1]) (wr := [(h0, .inr (4, [.ref q_1, .int 0, .ref q_2, .ref q_3, .ref q_4])), (q_1, .inl (cS, 20, .inr (.inr (.inr (.inr f_79)))))]) ⟨hx, hb, hml, hown, hts⟩ hl.1 (c_State_init l D cI cJ cC cZ cS q_81) hK.2.2.2.2.2.2.1 w_1_227 w_1_10 w_1_228 rfl (by decide +kernel) ⟨⟨(Nat.le_of_ble_eq_true rfl), (Nat.le_of_ble_eq_true rfl)⟩, (Nat.le_of_ble_eq_true rfl), (Nat.le_of_ble_eq_true rfl)⟩ hK hP hD hS hA [2] [0, 1] rfl rfl (by decide) (by decide) (by decide) rfl rfl (Nat.le_of_ble_eq_true rfl) dX4_init_62 (fun u H locs hw hP hD hS => ?_)
  obtain ⟨k1_82, k2_83, rfl⟩ := hw
  have hP : va_P D vwCl [(h0, .inr (4, [.ref q_1, .int 0, .ref q_2, .ref q_3, .ref q_4])), (q_1, .inl (cS, 20, .inr (.inr (.inr (.inr f_79))))), (q_81, .inr (7, [.ref k1_82, .ref k2_83, .int 0, .int 0, .int 0, .int 0, .int 0]))] H := hP
  have hD : va_D A [(h0, .inr (4, [.ref q_1, .int 0, .ref q_2, .ref q_3, .ref q_4])), (q_1, .inl (cS, 20, .inr (.inr (.inr (.inr f_79))))), (q_81, .inr (7, [.ref k1_82, .ref k2_83, .int 0, .int 0, .int 0, .int 0, .int 0]))] := hD
  refine W.widen (k := 52) (n := 3420) (Nat.le_of_ble_eq_true rfl) (Nat.le_of_ble_eq_true rfl) ?_
  refine sk_astO (ws' := fun f_84 => [(h0, .inr (4, [.ref q_1, .int 0, .ref q_2, .ref q_3, .ref q_4])), (q_1, .inl (cS, 20, .inr (.inr (.inr (.inr f_84))))), (q_81, .inr (7, [.ref k1_82, .ref k2_83, .int 0, .int 0, .int 0, .int 0, .int 0]))]) (r := (RX7, TX7, 7)) hx hb hK hP hD hS 1 4 2 7 rfl rfl rfl rfl (by unfold vp_in; decide) (fun _ => rfl) dX4_init_65 (fun f_84 H locs hP hD hS => ?_)
  refine lv_iinc (v := 16) (lv' := [(1, .int 16), (0, .ref h0)]) hx hb dX4_init_66 hl (k := 0) rfl (by decide) (by decide) rfl (fun ls hl => ?_)
  refine lv_goto (tgt := 47) hx hb dX4_init_69 (by decide) ?_
  have hP := hP.sub (ws' := [(h0, .inr (4, [.ref q_1, .int 0, .ref q_2, .ref q_3, .ref q_4])), (q_1, .inl (cS, 20, .inr (.inr (.inr (.inr f_84)))))]) [0, 1] rfl
  have hD := hD.sub (ws' := [(h0, .inr (4, [.ref q_1, .int 0, .ref q_2, .ref q_3, .ref q_4])), (q_1, .inl (cS, 20, .inr (.inr (.inr (.inr f_84)))))]) [0, 1] (by decide) rfl
  refine lv_iload_n hx hb dX4_init_47 rfl (lv_at hl 0 rfl) ?_
  refine lv_bipush (v := 20) hx hb dX4_init_48 (by decide) ?_
  refine lv_icmp_ge (tgt := 72) hx hb dX4_init_50 (by decide) (fun c => absurd c (by decide)) (fun c_85 => ?_)
  refine lv_aload_n hx hb dX4_init_53 rfl (lv_at hl 1 rfl) ?_
  refine sk_get (v := .ref q_1) (C := RX4) (T := TX4) (N := 5) hx hb hts inlX4 hown hK hP 0 rfl rfl 0 (by decide) w_2_40 rfl dX4_init_54 ?_
  refine lv_iload_n hx hb dX4_init_57 rfl (lv_at hl 0 rfl) ?_
  refine sk_new (ci := 7) (fs := [.null, .null, .int 0, .int 0, .int 0, .int 0, .int 0]) (C := RX7) (T := TX7) (N := 7) (k1 := 53) (n1 := 3427) hx hb hts inlX7 tyX7 tyX7_ok hown w_2_37 w_1_225 w_1_10 hK hP hD hS hA rfl (fun j hj => by rcases (show j = 0 ∨ j = 1 ∨ j = 2 ∨ j = 3 ∨ j = 4 ∨ j = 5 ∨ j = 6 by omega) with rfl | rfl | rfl | rfl | rfl | rfl | rfl <;> rfl) (Nat.le_of_ble_eq_true rfl) (Nat.le_of_ble_eq_true rfl) (Nat.le_of_ble_eq_true rfl) (Nat.le_of_ble_eq_true rfl) dX4_init_58 (fun q_86 H hP hD hS => ?_)
  have hP : va_P D vwCl [(h0, .inr (4, [.ref q_1, .int 0, .ref q_2, .ref q_3, .ref q_4])), (q_1, .inl (cS, 20, .inr (.inr (.inr (.inr f_84))))), (q_86, .inr (7, [.null, .null, .int 0, .int 0, .int 0, .int 0, .int 0]))] H := hP
  have hD : va_D A [(h0, .inr (4, [.ref q_1, .int 0, .ref q_2, .ref q_3, .ref q_4])), (q_1, .inl (cS, 20, .inr (.inr (.inr (.inr f_84))))), (q_86, .inr (7, [.null, .null, .int 0, .int 0, .int 0, .int 0, .int 0]))] := hD
  refine lv_dup hx hb dX4_init_61 rfl ?_
  refine sk_INv (n := 0) (rest := [.ref q_86, .int 16, .ref q_1]) (wr := [(h0, .inr (4, [.ref q_1, .int 0, .ref q_2, .ref q_3, .ref q_4])), (q_1, .inl (cS, 20, .inr (.inr (.inr (.inr f_84)))))]) ⟨hx, hb, hml, hown, hts⟩ hl.1 (c_State_init l D cI cJ cC cZ cS q_86) hK.2.2.2.2.2.2.1 w_1_227 w_1_10 w_1_228 rfl (by decide +kernel) ⟨⟨(Nat.le_of_ble_eq_true rfl), (Nat.le_of_ble_eq_true rfl)⟩, (Nat.le_of_ble_eq_true rfl), (Nat.le_of_ble_eq_true rfl)⟩ hK hP hD hS hA [2] [0, 1] rfl rfl (by decide) (by decide) (by decide) rfl rfl (Nat.le_of_ble_eq_true rfl) dX4_init_62 (fun u H locs hw hP hD hS => ?_)
  obtain ⟨k1_87, k2_88, rfl⟩ := hw
  have hP : va_P D vwCl [(h0, .inr (4, [.ref q_1, .int 0, .ref q_2, .ref q_3, .ref q_4])), (q_1, .inl (cS, 20, .inr (.inr (.inr (.inr f_84))))), (q_86, .inr (7, [.ref k1_87, .ref k2_88, .int 0, .int 0, .int 0, .int 0, .int 0]))] H := hP
  have hD : va_D A [(h0, .inr (4, [.ref q_1, .int 0, .ref q_2, .ref q_3, .ref q_4])), (q_1, .inl (cS, 20, .inr (.inr (.inr (.inr f_84))))), (q_86, .inr (7, [.ref k1_87, .ref k2_88, .int 0, .int 0, .int 0, .int 0, .int 0]))] := hD
  refine W.widen (k := 55) (n := 3445) (Nat.le_of_ble_eq_true rfl) (Nat.le_of_ble_eq_true rfl) ?_
  refine sk_astO (ws' := fun f_89 => [(h0, .inr (4, [.ref q_1, .int 0, .ref q_2, .ref q_3, .ref q_4])), (q_1, .inl (cS, 20, .inr (.inr (.inr (.inr f_89))))), (q_86, .inr (7, [.ref k1_87, .ref k2_88, .int 0, .int 0, .int 0, .int 0, .int 0]))]) (r := (RX7, TX7, 7)) hx hb hK hP hD hS 1 4 2 7 rfl rfl rfl rfl (by unfold vp_in; decide) (fun _ => rfl) dX4_init_65 (fun f_89 H locs hP hD hS => ?_)
  refine lv_iinc (v := 17) (lv' := [(1, .int 17), (0, .ref h0)]) hx hb dX4_init_66 hl (k := 0) rfl (by decide) (by decide) rfl (fun ls hl => ?_)
  refine lv_goto (tgt := 47) hx hb dX4_init_69 (by decide) ?_
  have hP := hP.sub (ws' := [(h0, .inr (4, [.ref q_1, .int 0, .ref q_2, .ref q_3, .ref q_4])), (q_1, .inl (cS, 20, .inr (.inr (.inr (.inr f_89)))))]) [0, 1] rfl
  have hD := hD.sub (ws' := [(h0, .inr (4, [.ref q_1, .int 0, .ref q_2, .ref q_3, .ref q_4])), (q_1, .inl (cS, 20, .inr (.inr (.inr (.inr f_89)))))]) [0, 1] (by decide) rfl
  refine lv_iload_n hx hb dX4_init_47 rfl (lv_at hl 0 rfl) ?_
  refine lv_bipush (v := 20) hx hb dX4_init_48 (by decide) ?_
  refine lv_icmp_ge (tgt := 72) hx hb dX4_init_50 (by decide) (fun c => absurd c (by decide)) (fun c_90 => ?_)
  refine lv_aload_n hx hb dX4_init_53 rfl (lv_at hl 1 rfl) ?_
  refine sk_get (v := .ref q_1) (C := RX4) (T := TX4) (N := 5) hx hb hts inlX4 hown hK hP 0 rfl rfl 0 (by decide) w_2_40 rfl dX4_init_54 ?_
  refine lv_iload_n hx hb dX4_init_57 rfl (lv_at hl 0 rfl) ?_
  refine sk_new (ci := 7) (fs := [.null, .null, .int 0, .int 0, .int 0, .int 0, .int 0]) (C := RX7) (T := TX7) (N := 7) (k1 := 56) (n1 := 3452) hx hb hts inlX7 tyX7 tyX7_ok hown w_2_37 w_1_225 w_1_10 hK hP hD hS hA rfl (fun j hj => by rcases (show j = 0 ∨ j = 1 ∨ j = 2 ∨ j = 3 ∨ j = 4 ∨ j = 5 ∨ j = 6 by omega) with rfl | rfl | rfl | rfl | rfl | rfl | rfl <;> rfl) (Nat.le_of_ble_eq_true rfl) (Nat.le_of_ble_eq_true rfl) (Nat.le_of_ble_eq_true rfl) (Nat.le_of_ble_eq_true rfl) dX4_init_58 (fun q_91 H hP hD hS => ?_)
  have hP : va_P D vwCl [(h0, .inr (4, [.ref q_1, .int 0, .ref q_2, .ref q_3, .ref q_4])), (q_1, .inl (cS, 20, .inr (.inr (.inr (.inr f_89))))), (q_91, .inr (7, [.null, .null, .int 0, .int 0, .int 0, .int 0, .int 0]))] H := hP
  have hD : va_D A [(h0, .inr (4, [.ref q_1, .int 0, .ref q_2, .ref q_3, .ref q_4])), (q_1, .inl (cS, 20, .inr (.inr (.inr (.inr f_89))))), (q_91, .inr (7, [.null, .null, .int 0, .int 0, .int 0, .int 0, .int 0]))] := hD
  refine lv_dup hx hb dX4_init_61 rfl ?_
  refine sk_INv (n := 0) (rest := [.ref q_91, .int 17, .ref q_1]) (wr := [(h0, .inr (4, [.ref q_1, .int 0, .ref q_2, .ref q_3, .ref q_4])), (q_1, .inl (cS, 20, .inr (.inr (.inr (.inr f_89)))))]) ⟨hx, hb, hml, hown, hts⟩ hl.1 (c_State_init l D cI cJ cC cZ cS q_91) hK.2.2.2.2.2.2.1 w_1_227 w_1_10 w_1_228 rfl (by decide +kernel) ⟨⟨(Nat.le_of_ble_eq_true rfl), (Nat.le_of_ble_eq_true rfl)⟩, (Nat.le_of_ble_eq_true rfl), (Nat.le_of_ble_eq_true rfl)⟩ hK hP hD hS hA [2] [0, 1] rfl rfl (by decide) (by decide) (by decide) rfl rfl (Nat.le_of_ble_eq_true rfl) dX4_init_62 (fun u H locs hw hP hD hS => ?_)
  obtain ⟨k1_92, k2_93, rfl⟩ := hw
  have hP : va_P D vwCl [(h0, .inr (4, [.ref q_1, .int 0, .ref q_2, .ref q_3, .ref q_4])), (q_1, .inl (cS, 20, .inr (.inr (.inr (.inr f_89))))), (q_91, .inr (7, [.ref k1_92, .ref k2_93, .int 0, .int 0, .int 0, .int 0, .int 0]))] H := hP
  have hD : va_D A [(h0, .inr (4, [.ref q_1, .int 0, .ref q_2, .ref q_3, .ref q_4])), (q_1, .inl (cS, 20, .inr (.inr (.inr (.inr f_89))))), (q_91, .inr (7, [.ref k1_92, .ref k2_93, .int 0, .int 0, .int 0, .int 0, .int 0]))] := hD
  refine W.widen (k := 58) (n := 3470) (Nat.le_of_ble_eq_true rfl) (Nat.le_of_ble_eq_true rfl) ?_
  refine sk_astO (ws' := fun f_94 => [(h0, .inr (4, [.ref q_1, .int 0, .ref q_2, .ref q_3, .ref q_4])), (q_1, .inl (cS, 20, .inr (.inr (.inr (.inr f_94))))), (q_91, .inr (7, [.ref k1_92, .ref k2_93, .int 0, .int 0, .int 0, .int 0, .int 0]))]) (r := (RX7, TX7, 7)) hx hb hK hP hD hS 1 4 2 7 rfl rfl rfl rfl (by unfold vp_in; decide) (fun _ => rfl) dX4_init_65 (fun f_94 H locs hP hD hS => ?_)
  refine lv_iinc (v := 18) (lv' := [(1, .int 18), (0, .ref h0)]) hx hb dX4_init_66 hl (k := 0) rfl (by decide) (by decide) rfl (fun ls hl => ?_)
  refine lv_goto (tgt := 47) hx hb dX4_init_69 (by decide) ?_
  have hP := hP.sub (ws' := [(h0, .inr (4, [.ref q_1, .int 0, .ref q_2, .ref q_3, .ref q_4])), (q_1, .inl (cS, 20, .inr (.inr (.inr (.inr f_94)))))]) [0, 1] rfl
  have hD := hD.sub (ws' := [(h0, .inr (4, [.ref q_1, .int 0, .ref q_2, .ref q_3, .ref q_4])), (q_1, .inl (cS, 20, .inr (.inr (.inr (.inr f_94)))))]) [0, 1] (by decide) rfl
  refine lv_iload_n hx hb dX4_init_47 rfl (lv_at hl 0 rfl) ?_
  refine lv_bipush (v := 20) hx hb dX4_init_48 (by decide) ?_
  refine lv_icmp_ge (tgt := 72) hx hb dX4_init_50 (by decide) (fun c => absurd c (by decide)) (fun c_95 => ?_)
  refine lv_aload_n hx hb dX4_init_53 rfl (lv_at hl 1 rfl) ?_
  refine sk_get (v := .ref q_1) (C := RX4) (T := TX4) (N := 5) hx hb hts inlX4 hown hK hP 0 rfl rfl 0 (by decide) w_2_40 rfl dX4_init_54 ?_
  refine lv_iload_n hx hb dX4_init_57 rfl (lv_at hl 0 rfl) ?_
  refine sk_new (ci := 7) (fs := [.null, .null, .int 0, .int 0, .int 0, .int 0, .int 0]) (C := RX7) (T := TX7) (N := 7) (k1 := 59) (n1 := 3477) hx hb hts inlX7 tyX7 tyX7_ok hown w_2_37 w_1_225 w_1_10 hK hP hD hS hA rfl (fun j hj => by rcases (show j = 0 ∨ j = 1 ∨ j = 2 ∨ j = 3 ∨ j = 4 ∨ j = 5 ∨ j = 6 by omega) with rfl | rfl | rfl | rfl | rfl | rfl | rfl <;> rfl) (Nat.le_of_ble_eq_true rfl) (Nat.le_of_ble_eq_true rfl) (Nat.le_of_ble_eq_true rfl) (Nat.le_of_ble_eq_true rfl) dX4_init_58 (fun q_96 H hP hD hS => ?_)
  have hP : va_P D vwCl [(h0, .inr (4, [.ref q_1, .int 0, .ref q_2, .ref q_3, .ref q_4])), (q_1, .inl (cS, 20, .inr (.inr (.inr (.inr f_94))))), (q_96, .inr (7, [.null, .null, .int 0, .int 0, .int 0, .int 0, .int 0]))] H := hP
  have hD : va_D A [(h0, .inr (4, [.ref q_1, .int 0, .ref q_2, .ref q_3, .ref q_4])), (q_1, .inl (cS, 20, .inr (.inr (.inr (.inr f_94))))), (q_96, .inr (7, [.null, .null, .int 0, .int 0, .int 0, .int 0, .int 0]))] := hD
  refine lv_dup hx hb dX4_init_61 rfl ?_
  refine sk_INv (n := 0) (rest := [.ref q_96, .int 18, .ref q_1]) (wr := [(h0, .inr (4, [.ref q_1, .int 0, .ref q_2, .ref q_3, .ref q_4])), (q_1, .inl (cS, 20, .inr (.inr (.inr (.inr f_94)))))]) ⟨hx, hb, hml, hown, hts⟩ hl.1 (c_State_init l D cI cJ cC cZ cS q_96) hK.2.2.2.2.2.2.1 w_1_227 w_1_10 w_1_228 rfl (by decide +kernel) ⟨⟨(Nat.le_of_ble_eq_true rfl), (Nat.le_of_ble_eq_true rfl)⟩, (Nat.le_of_ble_eq_true rfl), (Nat.le_of_ble_eq_true rfl)⟩ hK hP hD hS hA [2] [0, 1] rfl rfl (by decide) (by decide) (by decide) rfl rfl (Nat.le_of_ble_eq_true rfl) dX4_init_62 (fun u H locs hw hP hD hS => ?_)
  obtain ⟨k1_97, k2_98, rfl⟩ := hw
  have hP : va_P D vwCl [(h0, .inr (4, [.ref q_1, .int 0, .ref q_2, .ref q_3, .ref q_4])), (q_1, .inl (cS, 20, .inr (.inr (.inr (.inr f_94))))), (q_96, .inr (7, [.ref k1_97, .ref k2_98, .int 0, .int 0, .int 0, .int 0, .int 0]))] H := hP
  have hD : va_D A [(h0, .inr (4, [.ref q_1, .int 0, .ref q_2, .ref q_3, .ref q_4])), (q_1, .inl (cS, 20, .inr (.inr (.inr (.inr f_94))))), (q_96, .inr (7, [.ref k1_97, .ref k2_98, .int 0, .int 0, .int 0, .int 0, .int 0]))] := hD
  refine W.widen (k := 61) (n := 3495) (Nat.le_of_ble_eq_true rfl) (Nat.le_of_ble_eq_true rfl) ?_
  refine sk_astO (ws' := fun f_99 => [(h0, .inr (4, [.ref q_1, .int 0, .ref q_2, .ref q_3, .ref q_4])), (q_1, .inl (cS, 20, .inr (.inr (.inr (.inr f_99))))), (q_96, .inr (7, [.ref k1_97, .ref k2_98, .int 0, .int 0, .int 0, .int 0, .int 0]))]) (r := (RX7, TX7, 7)) hx hb hK hP hD hS 1 4 2 7 rfl rfl rfl rfl (by unfold vp_in; decide) (fun _ => rfl) dX4_init_65 (fun f_99 H locs hP hD hS => ?_)
  refine lv_iinc (v := 19) (lv' := [(1, .int 19), (0, .ref h0)]) hx hb dX4_init_66 hl (k := 0) rfl (by decide) (by decide) rfl (fun ls hl => ?_)
  refine lv_goto (tgt := 47) hx hb dX4_init_69 (by decide) ?_
  have hP := hP.sub (ws' := [(h0, .inr (4, [.ref q_1, .int 0, .ref q_2, .ref q_3, .ref q_4])), (q_1, .inl (cS, 20, .inr (.inr (.inr (.inr f_99)))))]) [0, 1] rfl
  have hD := hD.sub (ws' := [(h0, .inr (4, [.ref q_1, .int 0, .ref q_2, .ref q_3, .ref q_4])), (q_1, .inl (cS, 20, .inr (.inr (.inr (.inr f_99)))))]) [0, 1] (by decide) rfl
  refine lv_iload_n hx hb dX4_init_47 rfl (lv_at hl 0 rfl) ?_
  refine lv_bipush (v := 20) hx hb dX4_init_48 (by decide) ?_
  refine lv_icmp_ge (tgt := 72) hx hb dX4_init_50 (by decide) (fun c => absurd c (by decide)) (fun c_100 => ?_)
  refine lv_aload_n hx hb dX4_init_53 rfl (lv_at hl 1 rfl) ?_
  refine sk_get (v := .ref q_1) (C := RX4) (T := TX4) (N := 5) hx hb hts inlX4 hown hK hP 0 rfl rfl 0 (by decide) w_2_40 rfl dX4_init_54 ?_
  refine lv_iload_n hx hb dX4_init_57 rfl (lv_at hl 0 rfl) ?_
  refine sk_new (ci := 7) (fs := [.null, .null, .int 0, .int 0, .int 0, .int 0, .int 0]) (C := RX7) (T := TX7) (N := 7) (k1 := 62) (n1 := 3502) hx hb hts inlX7 tyX7 tyX7_ok hown w_2_37 w_1_225 w_1_10 hK hP hD hS hA rfl (fun j hj => by rcases (show j = 0 ∨ j = 1 ∨ j = 2 ∨ j = 3 ∨ j = 4 ∨ j = 5 ∨ j = 6 by omega) with rfl | rfl | rfl | rfl | rfl | rfl | rfl <;> rfl) (Nat.le_of_ble_eq_true rfl) (Nat.le_of_ble_eq_true rfl) (Nat.le_of_ble_eq_true rfl) (Nat.le_of_ble_eq_true rfl) dX4_init_58 (fun q_101 H hP hD hS => ?_)
  have hP : va_P D vwCl [(h0, .inr (4, [.ref q_1, .int 0, .ref q_2, .ref q_3, .ref q_4])), (q_1, .inl (cS, 20, .inr (.inr (.inr (.inr f_99))))), (q_101, .inr (7, [.null, .null, .int 0, .int 0, .int 0, .int 0, .int 0]))] H := hP
  have hD : va_D A [(h0, .inr (4, [.ref q_1, .int 0, .ref q_2, .ref q_3, .ref q_4])), (q_1, .inl (cS, 20, .inr (.inr (.inr (.inr f_99))))), (q_101, .inr (7, [.null, .null, .int 0, .int 0, .int 0, .int 0, .int 0]))] := hD
  refine lv_dup hx hb dX4_init_61 rfl ?_
  refine sk_INv (n := 0) (rest := [.ref q_101, .int 19, .ref q_1]) (wr := [(h0, .inr (4, [.ref q_1, .int 0, .ref q_2, .ref q_3, .ref q_4])), (q_1, .inl (cS, 20, .inr (.inr (.inr (.inr f_99)))))]) ⟨hx, hb, hml, hown, hts⟩ hl.1 (c_State_init l D cI cJ cC cZ cS q_101) hK.2.2.2.2.2.2.1 w_1_227 w_1_10 w_1_228 rfl (by decide +kernel) ⟨⟨(Nat.le_of_ble_eq_true rfl), (Nat.le_of_ble_eq_true rfl)⟩, (Nat.le_of_ble_eq_true rfl), (Nat.le_of_ble_eq_true rfl)⟩ hK hP hD hS hA [2] [0, 1] rfl rfl (by decide) (by decide) (by decide) rfl rfl (Nat.le_of_ble_eq_true rfl) dX4_init_62 (fun u H locs hw hP hD hS => ?_)
  obtain ⟨k1_102, k2_103, rfl⟩ := hw
  have hP : va_P D vwCl [(h0, .inr (4, [.ref q_1, .int 0, .ref q_2, .ref q_3, .ref q_4])), (q_1, .inl (cS, 20, .inr (.inr (.inr (.inr f_99))))), (q_101, .inr (7, [.ref k1_102, .ref k2_103, .int 0, .int 0, .int 0, .int 0, .int 0]))] H := hP
  have hD : va_D A [(h0, .inr (4, [.ref q_1, .int 0, .ref q_2, .ref q_3, .ref q_4])), (q_1, .inl (cS, 20, .inr (.inr (.inr (.inr f_99))))), (q_101, .inr (7, [.ref k1_102, .ref k2_103, .int 0, .int 0, .int 0, .int 0, .int 0]))] := hD
  refine W.widen (k := 64) (n := 3520) (Nat.le_of_ble_eq_true rfl) (Nat.le_of_ble_eq_true rfl) ?_
  refine sk_astO (ws' := fun f_104 => [(h0, .inr (4, [.ref q_1, .int 0, .ref q_2, .ref q_3, .ref q_4])), (q_1, .inl (cS, 20, .inr (.inr (.inr (.inr f_104))))), (q_101, .inr (7, [.ref k1_102, .ref k2_103, .int 0, .int 0, .int 0, .int 0, .int 0]))]) (r := (RX7, TX7, 7)) hx hb hK hP hD hS 1 4 2 7 rfl rfl rfl rfl (by unfold vp_in; decide) (fun _ => rfl) dX4_init_65 (fun f_104 H locs hP hD hS => ?_)
  refine lv_iinc (v := 20) (lv' := [(1, .int 20), (0, .ref h0)]) hx hb dX4_init_66 hl (k := 0) rfl (by decide) (by decide) rfl (fun ls hl => ?_)
  refine lv_goto (tgt := 47) hx hb dX4_init_69 (by decide) ?_
  have hP := hP.sub (ws' := [(h0, .inr (4, [.ref q_1, .int 0, .ref q_2, .ref q_3, .ref q_4])), (q_1, .inl (cS, 20, .inr (.inr (.inr (.inr f_104)))))]) [0, 1] rfl
  have hD := hD.sub (ws' := [(h0, .inr (4, [.ref q_1, .int 0, .ref q_2, .ref q_3, .ref q_4])), (q_1, .inl (cS, 20, .inr (.inr (.inr (.inr f_104)))))]) [0, 1] (by decide) rfl
  refine lv_iload_n hx hb dX4_init_47 rfl (lv_at hl 0 rfl) ?_
  refine lv_bipush (v := 20) hx hb dX4_init_48 (by decide) ?_
  refine lv_icmp_ge (tgt := 72) hx hb dX4_init_50 (by decide) (fun c_105 => ?_) (fun c => absurd c (by decide))
  have hP := hP.sub (ws' := [(h0, .inr (4, [.ref q_1, .int 0, .ref q_2, .ref q_3, .ref q_4]))]) [0] rfl
  have hD := hD.sub (ws' := [(h0, .inr (4, [.ref q_1, .int 0, .ref q_2, .ref q_3, .ref q_4]))]) [0] (by decide) rfl
  exact sk_vret hx hb hr hlocks hK hP hD hS (⟨q_1, q_2, q_3, q_4, rfl⟩) (Nat.le_of_ble_eq_true rfl) (Nat.le_of_ble_eq_true rfl) dX4_init_72
theorem dX9_init_0 : decode cX9_init 0 = .ok (.aload_n 0, 1) := by decide +kernel
theorem dX9_init_1 : decode cX9_init 1 = .ok (.invokespecial 3, 3) := by decide +kernel
theorem dX9_init_4 : decode cX9_init 4 = .ok (.aload_n 0, 1) := by decide +kernel
theorem dX9_init_5 : decode cX9_init 5 = .ok (.bipush 90, 2) := by decide +kernel
theorem dX9_init_7 : decode cX9_init 7 = .ok (.newarray .int, 2) := by decide +kernel
theorem dX9_init_9 : decode cX9_init 9 = .ok (.putfield 9, 3) := by decide +kernel
theorem dX9_init_12 : decode cX9_init 12 = .ok (.aload_n 0, 1) := by decide +kernel
theorem dX9_init_13 : decode cX9_init 13 = .ok (.sipush 900, 3) := by decide +kernel
theorem dX9_init_16 : decode cX9_init 16 = .ok (.newarray .int, 2) := by decide +kernel
theorem dX9_init_18 : decode cX9_init 18 = .ok (.putfield 15, 3) := by decide +kernel
theorem dX9_init_21 : decode cX9_init 21 = .ok (.aload_n 0, 1) := by decide +kernel
theorem dX9_init_22 : decode cX9_init 22 = .ok (.bipush 90, 2) := by decide +kernel
theorem dX9_init_24 : decode cX9_init 24 = .ok (.newarray .int, 2) := by decide +kernel
theorem dX9_init_26 : decode cX9_init 26 = .ok (.putfield 18, 3) := by decide +kernel
theorem dX9_init_29 : decode cX9_init 29 = .ok (.aload_n 0, 1) := by decide +kernel
theorem dX9_init_30 : decode cX9_init 30 = .ok (.bipush 90, 2) := by decide +kernel
theorem dX9_init_32 : decode cX9_init 32 = .ok (.newarray .int, 2) := by decide +kernel
theorem dX9_init_34 : decode cX9_init 34 = .ok (.putfield 21, 3) := by decide +kernel
theorem dX9_init_37 : decode cX9_init 37 = .ok (.aload_n 0, 1) := by decide +kernel
theorem dX9_init_38 : decode cX9_init 38 = .ok (.bipush 90, 2) := by decide +kernel
theorem dX9_init_40 : decode cX9_init 40 = .ok (.newarray .long, 2) := by decide +kernel
theorem dX9_init_42 : decode cX9_init 42 = .ok (.putfield 24, 3) := by decide +kernel
theorem dX9_init_45 : decode cX9_init 45 = .ok (.aload_n 0, 1) := by decide +kernel
theorem dX9_init_46 : decode cX9_init 46 = .ok (.bipush 9, 2) := by decide +kernel
theorem dX9_init_48 : decode cX9_init 48 = .ok (.newarray .int, 2) := by decide +kernel
theorem dX9_init_50 : decode cX9_init 50 = .ok (.putfield 28, 3) := by decide +kernel
theorem dX9_init_53 : decode cX9_init 53 = .ok (.return_, 1) := by decide +kernel
theorem w_2_62 : (Cond.methodLink RX9 3 objectInit) ∈ wsL_law := sk_mem (ck_2 _ (List.mem_of_getElem? (i := 62) rfl)) rfl
theorem w_2_63 : (Cond.fieldLink RX9 9 "SameKeeper$Table" "said" "[I") ∈ wsL_law := sk_mem (ck_2 _ (List.mem_of_getElem? (i := 63) rfl)) rfl
theorem w_2_65 : (Cond.fieldLink RX9 15 "SameKeeper$Table" "turned" "[I") ∈ wsL_law := sk_mem (ck_2 _ (List.mem_of_getElem? (i := 65) rfl)) rfl
theorem w_2_67 : (Cond.fieldLink RX9 18 "SameKeeper$Table" "alone" "[I") ∈ wsL_law := sk_mem (ck_2 _ (List.mem_of_getElem? (i := 67) rfl)) rfl
theorem w_2_70 : (Cond.fieldLink RX9 21 "SameKeeper$Table" "open" "[I") ∈ wsL_law := sk_mem (ck_2 _ (List.mem_of_getElem? (i := 70) rfl)) rfl
theorem w_2_72 : (Cond.fieldLink RX9 24 "SameKeeper$Table" "wages" "[J") ∈ wsL_law := sk_mem (ck_2 _ (List.mem_of_getElem? (i := 72) rfl)) rfl
theorem w_2_75 : (Cond.fieldLink RX9 28 "SameKeeper$Table" "keys" "[I") ∈ wsL_law := sk_mem (ck_2 _ (List.mem_of_getElem? (i := 75) rfl)) rfl
theorem w_2_61 : (Cond.code yX9_init cX9_init 1 none) ∈ wsL_law := sk_mem (ck_2 _ (List.mem_of_getElem? (i := 61) rfl)) rfl
set_option maxHeartbeats 4000000 in
set_option maxRecDepth 100000 in
theorem c_Table_init (l : Launch) (D : va_G) (cI cJ cC cZ cS : ClassId) (h0 : Nat)  : skM l yX9_init cX9_init 1 none 1 20 6 1269 D (skT cI cJ cC cZ cS) [.ref h0] [(h0, .inr (9, [.null, .null, .null, .null, .null, .null]))] (skV D (skT cI cJ cC cZ cS) (fun (u : va_W) => u = [])) := by
  refine skM_of (by decide) (Nat.le_of_ble_eq_true rfl) ?_
  intro p e s m below meth c A ls E hP hD hl
  obtain ⟨hx, hb, hr, hml, hlocks, hin, hown, hts, hK, hA⟩ := E
  have hown : s.vm.findClass RX9 = some m.cls := hown
  have hin : meth.name = "<init>" := hin
  have hS : va_S A s.heap s.heap [] := va_S.rf
  have hl : lv_has ls 1 [(0, .ref h0)] := hl
  refine lv_aload_n hx hb dX9_init_0 rfl (lv_at hl 0 rfl) ?_
  refine W.objInit hx hb hown (hts _ w_2_62) (hts _ w_1_28) (hts _ w_1_29) rfl (by rw [hml]; exact hl.1) rfl dX9_init_1 (Nat.le_of_ble_eq_true rfl) (Nat.le_of_ble_eq_true rfl) ?_
  refine W.eq (g2 := F0 m 4 ls []) rfl ?_
  refine lv_aload_n hx hb dX9_init_4 rfl (lv_at hl 0 rfl) ?_
  refine lv_bipush (v := 90) hx hb dX9_init_5 (by decide) ?_
  refine sk_newa (atype := .int) (ty := .int) (a0 := (90, .inl (fun _ => 0))) (cA := cI) (k1 := 1) (n1 := 90) hx hb hts w_1_49 rfl (fun _ _ h => h) 0 rfl hK hP hD hS hA (fun _ => vp_cell_i _ _ _) (by decide) (by decide) (Nat.le_of_ble_eq_true rfl) (Nat.le_of_ble_eq_true rfl) (Nat.le_of_ble_eq_true rfl) (Nat.le_of_ble_eq_true rfl) (Nat.le_of_ble_eq_true rfl) dX9_init_7 (fun q_1 H hP hD hS => ?_)
  have hP : va_P D vwCl [(h0, .inr (9, [.null, .null, .null, .null, .null, .null])), (q_1, .inl (cI, 90, .inl (fun _ => 0)))] H := hP
  have hD : va_D A [(h0, .inr (9, [.null, .null, .null, .null, .null, .null])), (q_1, .inl (cI, 90, .inl (fun _ => 0)))] := hD
  refine sk_putF (ws' := [(h0, .inr (9, [.ref q_1, .null, .null, .null, .null, .null])), (q_1, .inl (cI, 90, .inl (fun _ => 0)))]) (C := RX9) (T := TX9) (N := 6) (v := .ref q_1) hx hb hts inlX9 tyX9 tyX9_ok nmX9 hown hK hP hD hS 0 rfl rfl 0 (by decide) w_2_63 rfl hin rfl rfl rfl (Nat.le_of_ble_eq_true rfl) rfl dX9_init_9 (fun H locs hP hD hS => ?_)
  refine lv_aload_n hx hb dX9_init_12 rfl (lv_at hl 0 rfl) ?_
  refine lv_sipush (v := 900) hx hb dX9_init_13 (by decide) ?_
  refine sk_newa (atype := .int) (ty := .int) (a0 := (900, .inl (fun _ => 0))) (cA := cI) (k1 := 2) (n1 := 990) hx hb hts w_1_49 rfl (fun _ _ h => h) 0 rfl hK hP hD hS hA (fun _ => vp_cell_i _ _ _) (by decide) (by decide) (Nat.le_of_ble_eq_true rfl) (Nat.le_of_ble_eq_true rfl) (Nat.le_of_ble_eq_true rfl) (Nat.le_of_ble_eq_true rfl) (Nat.le_of_ble_eq_true rfl) dX9_init_16 (fun q_2 H hP hD hS => ?_)
  have hP : va_P D vwCl [(h0, .inr (9, [.ref q_1, .null, .null, .null, .null, .null])), (q_1, .inl (cI, 90, .inl (fun _ => 0))), (q_2, .inl (cI, 900, .inl (fun _ => 0)))] H := hP
  have hD : va_D A [(h0, .inr (9, [.ref q_1, .null, .null, .null, .null, .null])), (q_1, .inl (cI, 90, .inl (fun _ => 0))), (q_2, .inl (cI, 900, .inl (fun _ => 0)))] := hD
  refine sk_putF (ws' := [(h0, .inr (9, [.ref q_1, .ref q_2, .null, .null, .null, .null])), (q_1, .inl (cI, 90, .inl (fun _ => 0))), (q_2, .inl (cI, 900, .inl (fun _ => 0)))]) (C := RX9) (T := TX9) (N := 6) (v := .ref q_2) hx hb hts inlX9 tyX9 tyX9_ok nmX9 hown hK hP hD hS 0 rfl rfl 1 (by decide) w_2_65 rfl hin rfl rfl rfl (Nat.le_of_ble_eq_true rfl) rfl dX9_init_18 (fun H locs hP hD hS => ?_)
  refine lv_aload_n hx hb dX9_init_21 rfl (lv_at hl 0 rfl) ?_
  refine lv_bipush (v := 90) hx hb dX9_init_22 (by decide) ?_
  refine sk_newa (atype := .int) (ty := .int) (a0 := (90, .inl (fun _ => 0))) (cA := cI) (k1 := 3) (n1 := 1080) hx hb hts w_1_49 rfl (fun _ _ h => h) 0 rfl hK hP hD hS hA (fun _ => vp_cell_i _ _ _) (by decide) (by decide) (Nat.le_of_ble_eq_true rfl) (Nat.le_of_ble_eq_true rfl) (Nat.le_of_ble_eq_true rfl) (Nat.le_of_ble_eq_true rfl) (Nat.le_of_ble_eq_true rfl) dX9_init_24 (fun q_3 H hP hD hS => ?_)
  have hP : va_P D vwCl [(h0, .inr (9, [.ref q_1, .ref q_2, .null, .null, .null, .null])), (q_1, .inl (cI, 90, .inl (fun _ => 0))), (q_2, .inl (cI, 900, .inl (fun _ => 0))), (q_3, .inl (cI, 90, .inl (fun _ => 0)))] H := hP
  have hD : va_D A [(h0, .inr (9, [.ref q_1, .ref q_2, .null, .null, .null, .null])), (q_1, .inl (cI, 90, .inl (fun _ => 0))), (q_2, .inl (cI, 900, .inl (fun _ => 0))), (q_3, .inl (cI, 90, .inl (fun _ => 0)))] := hD
  refine sk_putF (ws' := [(h0, .inr (9, [.ref q_1, .ref q_2, .ref q_3, .null, .null, .null])), (q_1, .inl (cI, 90, .inl (fun _ => 0))), (q_2, .inl (cI, 900, .inl (fun _ => 0))), (q_3, .inl (cI, 90, .inl (fun _ => 0)))]) (C := RX9) (T := TX9) (N := 6) (v := .ref q_3) hx hb hts inlX9 tyX9 tyX9_ok nmX9 hown hK hP hD hS 0 rfl rfl 2 (by decide) w_2_67 rfl hin rfl rfl rfl (Nat.le_of_ble_eq_true rfl) rfl dX9_init_26 (fun H locs hP hD hS => ?_)
  refine lv_aload_n hx hb dX9_init_29 rfl (lv_at hl 0 rfl) ?_
  refine lv_bipush (v := 90) hx hb dX9_init_30 (by decide) ?_
  refine sk_newa (atype := .int) (ty := .int) (a0 := (90, .inl (fun _ => 0))) (cA := cI) (k1 := 4) (n1 := 1170) hx hb hts w_1_49 rfl (fun _ _ h => h) 0 rfl hK hP hD hS hA (fun _ => vp_cell_i _ _ _) (by decide) (by decide) (Nat.le_of_ble_eq_true rfl) (Nat.le_of_ble_eq_true rfl) (Nat.le_of_ble_eq_true rfl) (Nat.le_of_ble_eq_true rfl) (Nat.le_of_ble_eq_true rfl) dX9_init_32 (fun q_4 H hP hD hS => ?_)
  have hP : va_P D vwCl [(h0, .inr (9, [.ref q_1, .ref q_2, .ref q_3, .null, .null, .null])), (q_1, .inl (cI, 90, .inl (fun _ => 0))), (q_2, .inl (cI, 900, .inl (fun _ => 0))), (q_3, .inl (cI, 90, .inl (fun _ => 0))), (q_4, .inl (cI, 90, .inl (fun _ => 0)))] H := hP
  have hD : va_D A [(h0, .inr (9, [.ref q_1, .ref q_2, .ref q_3, .null, .null, .null])), (q_1, .inl (cI, 90, .inl (fun _ => 0))), (q_2, .inl (cI, 900, .inl (fun _ => 0))), (q_3, .inl (cI, 90, .inl (fun _ => 0))), (q_4, .inl (cI, 90, .inl (fun _ => 0)))] := hD
  refine sk_putF (ws' := [(h0, .inr (9, [.ref q_1, .ref q_2, .ref q_3, .ref q_4, .null, .null])), (q_1, .inl (cI, 90, .inl (fun _ => 0))), (q_2, .inl (cI, 900, .inl (fun _ => 0))), (q_3, .inl (cI, 90, .inl (fun _ => 0))), (q_4, .inl (cI, 90, .inl (fun _ => 0)))]) (C := RX9) (T := TX9) (N := 6) (v := .ref q_4) hx hb hts inlX9 tyX9 tyX9_ok nmX9 hown hK hP hD hS 0 rfl rfl 3 (by decide) w_2_70 rfl hin rfl rfl rfl (Nat.le_of_ble_eq_true rfl) rfl dX9_init_34 (fun H locs hP hD hS => ?_)
  refine lv_aload_n hx hb dX9_init_37 rfl (lv_at hl 0 rfl) ?_
  refine lv_bipush (v := 90) hx hb dX9_init_38 (by decide) ?_
  refine sk_newa (atype := .long) (ty := .long) (a0 := (90, .inr (.inl (fun _ => 0)))) (cA := cJ) (k1 := 5) (n1 := 1260) hx hb hts w_1_151 rfl (fun _ _ h => h) 1 rfl hK hP hD hS hA (fun _ => vp_cell_l _ _ _) (by decide) (by decide) (Nat.le_of_ble_eq_true rfl) (Nat.le_of_ble_eq_true rfl) (Nat.le_of_ble_eq_true rfl) (Nat.le_of_ble_eq_true rfl) (Nat.le_of_ble_eq_true rfl) dX9_init_40 (fun q_5 H hP hD hS => ?_)
  have hP : va_P D vwCl [(h0, .inr (9, [.ref q_1, .ref q_2, .ref q_3, .ref q_4, .null, .null])), (q_1, .inl (cI, 90, .inl (fun _ => 0))), (q_2, .inl (cI, 900, .inl (fun _ => 0))), (q_3, .inl (cI, 90, .inl (fun _ => 0))), (q_4, .inl (cI, 90, .inl (fun _ => 0))), (q_5, .inl (cJ, 90, .inr (.inl (fun _ => 0))))] H := hP
  have hD : va_D A [(h0, .inr (9, [.ref q_1, .ref q_2, .ref q_3, .ref q_4, .null, .null])), (q_1, .inl (cI, 90, .inl (fun _ => 0))), (q_2, .inl (cI, 900, .inl (fun _ => 0))), (q_3, .inl (cI, 90, .inl (fun _ => 0))), (q_4, .inl (cI, 90, .inl (fun _ => 0))), (q_5, .inl (cJ, 90, .inr (.inl (fun _ => 0))))] := hD
  refine sk_putF (ws' := [(h0, .inr (9, [.ref q_1, .ref q_2, .ref q_3, .ref q_4, .ref q_5, .null])), (q_1, .inl (cI, 90, .inl (fun _ => 0))), (q_2, .inl (cI, 900, .inl (fun _ => 0))), (q_3, .inl (cI, 90, .inl (fun _ => 0))), (q_4, .inl (cI, 90, .inl (fun _ => 0))), (q_5, .inl (cJ, 90, .inr (.inl (fun _ => 0))))]) (C := RX9) (T := TX9) (N := 6) (v := .ref q_5) hx hb hts inlX9 tyX9 tyX9_ok nmX9 hown hK hP hD hS 0 rfl rfl 4 (by decide) w_2_72 rfl hin rfl rfl rfl (Nat.le_of_ble_eq_true rfl) rfl dX9_init_42 (fun H locs hP hD hS => ?_)
  refine lv_aload_n hx hb dX9_init_45 rfl (lv_at hl 0 rfl) ?_
  refine lv_bipush (v := 9) hx hb dX9_init_46 (by decide) ?_
  refine sk_newa (atype := .int) (ty := .int) (a0 := (9, .inl (fun _ => 0))) (cA := cI) (k1 := 6) (n1 := 1269) hx hb hts w_1_49 rfl (fun _ _ h => h) 0 rfl hK hP hD hS hA (fun _ => vp_cell_i _ _ _) (by decide) (by decide) (Nat.le_of_ble_eq_true rfl) (Nat.le_of_ble_eq_true rfl) (Nat.le_of_ble_eq_true rfl) (Nat.le_of_ble_eq_true rfl) (Nat.le_of_ble_eq_true rfl) dX9_init_48 (fun q_6 H hP hD hS => ?_)
  have hP : va_P D vwCl [(h0, .inr (9, [.ref q_1, .ref q_2, .ref q_3, .ref q_4, .ref q_5, .null])), (q_1, .inl (cI, 90, .inl (fun _ => 0))), (q_2, .inl (cI, 900, .inl (fun _ => 0))), (q_3, .inl (cI, 90, .inl (fun _ => 0))), (q_4, .inl (cI, 90, .inl (fun _ => 0))), (q_5, .inl (cJ, 90, .inr (.inl (fun _ => 0)))), (q_6, .inl (cI, 9, .inl (fun _ => 0)))] H := hP
  have hD : va_D A [(h0, .inr (9, [.ref q_1, .ref q_2, .ref q_3, .ref q_4, .ref q_5, .null])), (q_1, .inl (cI, 90, .inl (fun _ => 0))), (q_2, .inl (cI, 900, .inl (fun _ => 0))), (q_3, .inl (cI, 90, .inl (fun _ => 0))), (q_4, .inl (cI, 90, .inl (fun _ => 0))), (q_5, .inl (cJ, 90, .inr (.inl (fun _ => 0)))), (q_6, .inl (cI, 9, .inl (fun _ => 0)))] := hD
  refine sk_putF (ws' := [(h0, .inr (9, [.ref q_1, .ref q_2, .ref q_3, .ref q_4, .ref q_5, .ref q_6])), (q_1, .inl (cI, 90, .inl (fun _ => 0))), (q_2, .inl (cI, 900, .inl (fun _ => 0))), (q_3, .inl (cI, 90, .inl (fun _ => 0))), (q_4, .inl (cI, 90, .inl (fun _ => 0))), (q_5, .inl (cJ, 90, .inr (.inl (fun _ => 0)))), (q_6, .inl (cI, 9, .inl (fun _ => 0)))]) (C := RX9) (T := TX9) (N := 6) (v := .ref q_6) hx hb hts inlX9 tyX9 tyX9_ok nmX9 hown hK hP hD hS 0 rfl rfl 5 (by decide) w_2_75 rfl hin rfl rfl rfl (Nat.le_of_ble_eq_true rfl) rfl dX9_init_50 (fun H locs hP hD hS => ?_)
  have hP := hP.sub (ws' := []) [] rfl
  have hD := hD.sub (ws' := []) [] (by decide) rfl
  exact sk_vret hx hb hr hlocks hK hP hD hS rfl (Nat.le_of_ble_eq_true rfl) (Nat.le_of_ble_eq_true rfl) dX9_init_53
theorem dX1_init_0 : decode cX1_init 0 = .ok (.aload_n 0, 1) := by decide +kernel
theorem dX1_init_1 : decode cX1_init 1 = .ok (.invokespecial 3, 3) := by decide +kernel
theorem dX1_init_4 : decode cX1_init 4 = .ok (.aload_n 0, 1) := by decide +kernel
theorem dX1_init_5 : decode cX1_init 5 = .ok (.bipush 90, 2) := by decide +kernel
theorem dX1_init_7 : decode cX1_init 7 = .ok (.newarray .int, 2) := by decide +kernel
theorem dX1_init_9 : decode cX1_init 9 = .ok (.putfield 9, 3) := by decide +kernel
theorem dX1_init_12 : decode cX1_init 12 = .ok (.aload_n 0, 1) := by decide +kernel
theorem dX1_init_13 : decode cX1_init 13 = .ok (.bipush 9, 2) := by decide +kernel
theorem dX1_init_15 : decode cX1_init 15 = .ok (.newarray .int, 2) := by decide +kernel
theorem dX1_init_17 : decode cX1_init 17 = .ok (.putfield 15, 3) := by decide +kernel
theorem dX1_init_20 : decode cX1_init 20 = .ok (.aload_n 0, 1) := by decide +kernel
theorem dX1_init_21 : decode cX1_init 21 = .ok (.bipush 10, 2) := by decide +kernel
theorem dX1_init_23 : decode cX1_init 23 = .ok (.newarray .int, 2) := by decide +kernel
theorem dX1_init_25 : decode cX1_init 25 = .ok (.putfield 18, 3) := by decide +kernel
theorem dX1_init_28 : decode cX1_init 28 = .ok (.aload_n 0, 1) := by decide +kernel
theorem dX1_init_29 : decode cX1_init 29 = .ok (.bipush 100, 2) := by decide +kernel
theorem dX1_init_31 : decode cX1_init 31 = .ok (.newarray .long, 2) := by decide +kernel
theorem dX1_init_33 : decode cX1_init 33 = .ok (.putfield 21, 3) := by decide +kernel
theorem dX1_init_36 : decode cX1_init 36 = .ok (.aload_n 0, 1) := by decide +kernel
theorem dX1_init_37 : decode cX1_init 37 = .ok (.bipush 100, 2) := by decide +kernel
theorem dX1_init_39 : decode cX1_init 39 = .ok (.newarray .long, 2) := by decide +kernel
theorem dX1_init_41 : decode cX1_init 41 = .ok (.putfield 25, 3) := by decide +kernel
theorem dX1_init_44 : decode cX1_init 44 = .ok (.aload_n 0, 1) := by decide +kernel
theorem dX1_init_45 : decode cX1_init 45 = .ok (.bipush 100, 2) := by decide +kernel
theorem dX1_init_47 : decode cX1_init 47 = .ok (.newarray .long, 2) := by decide +kernel
theorem dX1_init_49 : decode cX1_init 49 = .ok (.putfield 28, 3) := by decide +kernel
theorem dX1_init_52 : decode cX1_init 52 = .ok (.aload_n 0, 1) := by decide +kernel
theorem dX1_init_53 : decode cX1_init 53 = .ok (.iconst 0, 1) := by decide +kernel
theorem dX1_init_54 : decode cX1_init 54 = .ok (.putfield 31, 3) := by decide +kernel
theorem dX1_init_57 : decode cX1_init 57 = .ok (.aload_n 0, 1) := by decide +kernel
theorem dX1_init_58 : decode cX1_init 58 = .ok (.iconst 0, 1) := by decide +kernel
theorem dX1_init_59 : decode cX1_init 59 = .ok (.putfield 35, 3) := by decide +kernel
theorem dX1_init_62 : decode cX1_init 62 = .ok (.aload_n 0, 1) := by decide +kernel
theorem dX1_init_63 : decode cX1_init 63 = .ok (.aload_n 1, 1) := by decide +kernel
theorem dX1_init_64 : decode cX1_init 64 = .ok (.putfield 38, 3) := by decide +kernel
theorem dX1_init_67 : decode cX1_init 67 = .ok (.return_, 1) := by decide +kernel
theorem w_2_94 : (Cond.methodLink RX1 3 objectInit) ∈ wsL_law := sk_mem (ck_2 _ (List.mem_of_getElem? (i := 94) rfl)) rfl
theorem w_2_96 : (Cond.fieldLink RX1 9 "SameKeeper$Graph" "leads" "[I") ∈ wsL_law := sk_mem (ck_2 _ (List.mem_of_getElem? (i := 96) rfl)) rfl
theorem w_2_97 : (Cond.fieldLink RX1 15 "SameKeeper$Graph" "allowed" "[I") ∈ wsL_law := sk_mem (ck_2 _ (List.mem_of_getElem? (i := 97) rfl)) rfl
theorem w_2_98 : (Cond.fieldLink RX1 18 "SameKeeper$Graph" "live" "[I") ∈ wsL_law := sk_mem (ck_2 _ (List.mem_of_getElem? (i := 98) rfl)) rfl
theorem w_2_99 : (Cond.fieldLink RX1 21 "SameKeeper$Graph" "ways" "[J") ∈ wsL_law := sk_mem (ck_2 _ (List.mem_of_getElem? (i := 99) rfl)) rfl
theorem w_2_100 : (Cond.fieldLink RX1 25 "SameKeeper$Graph" "comings" "[J") ∈ wsL_law := sk_mem (ck_2 _ (List.mem_of_getElem? (i := 100) rfl)) rfl
theorem w_2_101 : (Cond.fieldLink RX1 28 "SameKeeper$Graph" "gains" "[J") ∈ wsL_law := sk_mem (ck_2 _ (List.mem_of_getElem? (i := 101) rfl)) rfl
theorem w_2_102 : (Cond.fieldLink RX1 31 "SameKeeper$Graph" "days" "I") ∈ wsL_law := sk_mem (ck_2 _ (List.mem_of_getElem? (i := 102) rfl)) rfl
theorem w_2_103 : (Cond.fieldLink RX1 35 "SameKeeper$Graph" "start" "I") ∈ wsL_law := sk_mem (ck_2 _ (List.mem_of_getElem? (i := 103) rfl)) rfl
theorem w_2_95 : (Cond.fieldLink RX1 38 "SameKeeper$Graph" "table" "LSameKeeper$Table;") ∈ wsL_law := sk_mem (ck_2 _ (List.mem_of_getElem? (i := 95) rfl)) rfl
theorem w_2_93 : (Cond.code yX1_init cX1_init 2 none) ∈ wsL_law := sk_mem (ck_2 _ (List.mem_of_getElem? (i := 93) rfl)) rfl
set_option maxHeartbeats 4000000 in
set_option maxRecDepth 100000 in
theorem c_Graph_init (l : Launch) (D : va_G) (cI cJ cC cZ cS : ClassId) (h0 : Nat) (tb : Nat)  : skM l yX1_init cX1_init 2 none 1 20 6 409 D (skT cI cJ cC cZ cS) [.ref h0, .ref tb] [(h0, .inr (1, [.null, .null, .null, .null, .null, .null, .null, .int 0, .int 0]))] (skV D (skT cI cJ cC cZ cS) (fun (u : va_W) => u = [])) := by
  refine skM_of (by decide) (Nat.le_of_ble_eq_true rfl) ?_
  intro p e s m below meth c A ls E hP hD hl
  obtain ⟨hx, hb, hr, hml, hlocks, hin, hown, hts, hK, hA⟩ := E
  have hown : s.vm.findClass RX1 = some m.cls := hown
  have hin : meth.name = "<init>" := hin
  have hS : va_S A s.heap s.heap [] := va_S.rf
  have hl : lv_has ls 2 [(0, .ref h0), (1, .ref tb)] := hl
  refine lv_aload_n hx hb dX1_init_0 rfl (lv_at hl 0 rfl) ?_
  refine W.objInit hx hb hown (hts _ w_2_94) (hts _ w_1_28) (hts _ w_1_29) rfl (by rw [hml]; exact hl.1) rfl dX1_init_1 (Nat.le_of_ble_eq_true rfl) (Nat.le_of_ble_eq_true rfl) ?_
  refine W.eq (g2 := F0 m 4 ls []) rfl ?_
  refine lv_aload_n hx hb dX1_init_4 rfl (lv_at hl 0 rfl) ?_
  refine lv_bipush (v := 90) hx hb dX1_init_5 (by decide) ?_
  refine sk_newa (atype := .int) (ty := .int) (a0 := (90, .inl (fun _ => 0))) (cA := cI) (k1 := 1) (n1 := 90) hx hb hts w_1_49 rfl (fun _ _ h => h) 0 rfl hK hP hD hS hA (fun _ => vp_cell_i _ _ _) (by decide) (by decide) (Nat.le_of_ble_eq_true rfl) (Nat.le_of_ble_eq_true rfl) (Nat.le_of_ble_eq_true rfl) (Nat.le_of_ble_eq_true rfl) (Nat.le_of_ble_eq_true rfl) dX1_init_7 (fun q_1 H hP hD hS => ?_)
  have hP : va_P D vwCl [(h0, .inr (1, [.null, .null, .null, .null, .null, .null, .null, .int 0, .int 0])), (q_1, .inl (cI, 90, .inl (fun _ => 0)))] H := hP
  have hD : va_D A [(h0, .inr (1, [.null, .null, .null, .null, .null, .null, .null, .int 0, .int 0])), (q_1, .inl (cI, 90, .inl (fun _ => 0)))] := hD
  refine sk_putF (ws' := [(h0, .inr (1, [.null, .ref q_1, .null, .null, .null, .null, .null, .int 0, .int 0])), (q_1, .inl (cI, 90, .inl (fun _ => 0)))]) (C := RX1) (T := TX1) (N := 9) (v := .ref q_1) hx hb hts inlX1 tyX1 tyX1_ok nmX1 hown hK hP hD hS 0 rfl rfl 1 (by decide) w_2_96 rfl hin rfl rfl rfl (Nat.le_of_ble_eq_true rfl) rfl dX1_init_9 (fun H locs hP hD hS => ?_)
  refine lv_aload_n hx hb dX1_init_12 rfl (lv_at hl 0 rfl) ?_
  refine lv_bipush (v := 9) hx hb dX1_init_13 (by decide) ?_
  refine sk_newa (atype := .int) (ty := .int) (a0 := (9, .inl (fun _ => 0))) (cA := cI) (k1 := 2) (n1 := 99) hx hb hts w_1_49 rfl (fun _ _ h => h) 0 rfl hK hP hD hS hA (fun _ => vp_cell_i _ _ _) (by decide) (by decide) (Nat.le_of_ble_eq_true rfl) (Nat.le_of_ble_eq_true rfl) (Nat.le_of_ble_eq_true rfl) (Nat.le_of_ble_eq_true rfl) (Nat.le_of_ble_eq_true rfl) dX1_init_15 (fun q_2 H hP hD hS => ?_)
  have hP : va_P D vwCl [(h0, .inr (1, [.null, .ref q_1, .null, .null, .null, .null, .null, .int 0, .int 0])), (q_1, .inl (cI, 90, .inl (fun _ => 0))), (q_2, .inl (cI, 9, .inl (fun _ => 0)))] H := hP
  have hD : va_D A [(h0, .inr (1, [.null, .ref q_1, .null, .null, .null, .null, .null, .int 0, .int 0])), (q_1, .inl (cI, 90, .inl (fun _ => 0))), (q_2, .inl (cI, 9, .inl (fun _ => 0)))] := hD
  refine sk_putF (ws' := [(h0, .inr (1, [.null, .ref q_1, .ref q_2, .null, .null, .null, .null, .int 0, .int 0])), (q_1, .inl (cI, 90, .inl (fun _ => 0))), (q_2, .inl (cI, 9, .inl (fun _ => 0)))]) (C := RX1) (T := TX1) (N := 9) (v := .ref q_2) hx hb hts inlX1 tyX1 tyX1_ok nmX1 hown hK hP hD hS 0 rfl rfl 2 (by decide) w_2_97 rfl hin rfl rfl rfl (Nat.le_of_ble_eq_true rfl) rfl dX1_init_17 (fun H locs hP hD hS => ?_)
  refine lv_aload_n hx hb dX1_init_20 rfl (lv_at hl 0 rfl) ?_
  refine lv_bipush (v := 10) hx hb dX1_init_21 (by decide) ?_
  refine sk_newa (atype := .int) (ty := .int) (a0 := (10, .inl (fun _ => 0))) (cA := cI) (k1 := 3) (n1 := 109) hx hb hts w_1_49 rfl (fun _ _ h => h) 0 rfl hK hP hD hS hA (fun _ => vp_cell_i _ _ _) (by decide) (by decide) (Nat.le_of_ble_eq_true rfl) (Nat.le_of_ble_eq_true rfl) (Nat.le_of_ble_eq_true rfl) (Nat.le_of_ble_eq_true rfl) (Nat.le_of_ble_eq_true rfl) dX1_init_23 (fun q_3 H hP hD hS => ?_)
  have hP : va_P D vwCl [(h0, .inr (1, [.null, .ref q_1, .ref q_2, .null, .null, .null, .null, .int 0, .int 0])), (q_1, .inl (cI, 90, .inl (fun _ => 0))), (q_2, .inl (cI, 9, .inl (fun _ => 0))), (q_3, .inl (cI, 10, .inl (fun _ => 0)))] H := hP
  have hD : va_D A [(h0, .inr (1, [.null, .ref q_1, .ref q_2, .null, .null, .null, .null, .int 0, .int 0])), (q_1, .inl (cI, 90, .inl (fun _ => 0))), (q_2, .inl (cI, 9, .inl (fun _ => 0))), (q_3, .inl (cI, 10, .inl (fun _ => 0)))] := hD
  refine sk_putF (ws' := [(h0, .inr (1, [.null, .ref q_1, .ref q_2, .ref q_3, .null, .null, .null, .int 0, .int 0])), (q_1, .inl (cI, 90, .inl (fun _ => 0))), (q_2, .inl (cI, 9, .inl (fun _ => 0))), (q_3, .inl (cI, 10, .inl (fun _ => 0)))]) (C := RX1) (T := TX1) (N := 9) (v := .ref q_3) hx hb hts inlX1 tyX1 tyX1_ok nmX1 hown hK hP hD hS 0 rfl rfl 3 (by decide) w_2_98 rfl hin rfl rfl rfl (Nat.le_of_ble_eq_true rfl) rfl dX1_init_25 (fun H locs hP hD hS => ?_)
  refine lv_aload_n hx hb dX1_init_28 rfl (lv_at hl 0 rfl) ?_
  refine lv_bipush (v := 100) hx hb dX1_init_29 (by decide) ?_
  refine sk_newa (atype := .long) (ty := .long) (a0 := (100, .inr (.inl (fun _ => 0)))) (cA := cJ) (k1 := 4) (n1 := 209) hx hb hts w_1_151 rfl (fun _ _ h => h) 1 rfl hK hP hD hS hA (fun _ => vp_cell_l _ _ _) (by decide) (by decide) (Nat.le_of_ble_eq_true rfl) (Nat.le_of_ble_eq_true rfl) (Nat.le_of_ble_eq_true rfl) (Nat.le_of_ble_eq_true rfl) (Nat.le_of_ble_eq_true rfl) dX1_init_31 (fun q_4 H hP hD hS => ?_)
  have hP : va_P D vwCl [(h0, .inr (1, [.null, .ref q_1, .ref q_2, .ref q_3, .null, .null, .null, .int 0, .int 0])), (q_1, .inl (cI, 90, .inl (fun _ => 0))), (q_2, .inl (cI, 9, .inl (fun _ => 0))), (q_3, .inl (cI, 10, .inl (fun _ => 0))), (q_4, .inl (cJ, 100, .inr (.inl (fun _ => 0))))] H := hP
  have hD : va_D A [(h0, .inr (1, [.null, .ref q_1, .ref q_2, .ref q_3, .null, .null, .null, .int 0, .int 0])), (q_1, .inl (cI, 90, .inl (fun _ => 0))), (q_2, .inl (cI, 9, .inl (fun _ => 0))), (q_3, .inl (cI, 10, .inl (fun _ => 0))), (q_4, .inl (cJ, 100, .inr (.inl (fun _ => 0))))] := hD
  refine sk_putF (ws' := [(h0, .inr (1, [.null, .ref q_1, .ref q_2, .ref q_3, .ref q_4, .null, .null, .int 0, .int 0])), (q_1, .inl (cI, 90, .inl (fun _ => 0))), (q_2, .inl (cI, 9, .inl (fun _ => 0))), (q_3, .inl (cI, 10, .inl (fun _ => 0))), (q_4, .inl (cJ, 100, .inr (.inl (fun _ => 0))))]) (C := RX1) (T := TX1) (N := 9) (v := .ref q_4) hx hb hts inlX1 tyX1 tyX1_ok nmX1 hown hK hP hD hS 0 rfl rfl 4 (by decide) w_2_99 rfl hin rfl rfl rfl (Nat.le_of_ble_eq_true rfl) rfl dX1_init_33 (fun H locs hP hD hS => ?_)
  refine lv_aload_n hx hb dX1_init_36 rfl (lv_at hl 0 rfl) ?_
  refine lv_bipush (v := 100) hx hb dX1_init_37 (by decide) ?_
  refine sk_newa (atype := .long) (ty := .long) (a0 := (100, .inr (.inl (fun _ => 0)))) (cA := cJ) (k1 := 5) (n1 := 309) hx hb hts w_1_151 rfl (fun _ _ h => h) 1 rfl hK hP hD hS hA (fun _ => vp_cell_l _ _ _) (by decide) (by decide) (Nat.le_of_ble_eq_true rfl) (Nat.le_of_ble_eq_true rfl) (Nat.le_of_ble_eq_true rfl) (Nat.le_of_ble_eq_true rfl) (Nat.le_of_ble_eq_true rfl) dX1_init_39 (fun q_5 H hP hD hS => ?_)
  have hP : va_P D vwCl [(h0, .inr (1, [.null, .ref q_1, .ref q_2, .ref q_3, .ref q_4, .null, .null, .int 0, .int 0])), (q_1, .inl (cI, 90, .inl (fun _ => 0))), (q_2, .inl (cI, 9, .inl (fun _ => 0))), (q_3, .inl (cI, 10, .inl (fun _ => 0))), (q_4, .inl (cJ, 100, .inr (.inl (fun _ => 0)))), (q_5, .inl (cJ, 100, .inr (.inl (fun _ => 0))))] H := hP
  have hD : va_D A [(h0, .inr (1, [.null, .ref q_1, .ref q_2, .ref q_3, .ref q_4, .null, .null, .int 0, .int 0])), (q_1, .inl (cI, 90, .inl (fun _ => 0))), (q_2, .inl (cI, 9, .inl (fun _ => 0))), (q_3, .inl (cI, 10, .inl (fun _ => 0))), (q_4, .inl (cJ, 100, .inr (.inl (fun _ => 0)))), (q_5, .inl (cJ, 100, .inr (.inl (fun _ => 0))))] := hD
  refine sk_putF (ws' := [(h0, .inr (1, [.null, .ref q_1, .ref q_2, .ref q_3, .ref q_4, .ref q_5, .null, .int 0, .int 0])), (q_1, .inl (cI, 90, .inl (fun _ => 0))), (q_2, .inl (cI, 9, .inl (fun _ => 0))), (q_3, .inl (cI, 10, .inl (fun _ => 0))), (q_4, .inl (cJ, 100, .inr (.inl (fun _ => 0)))), (q_5, .inl (cJ, 100, .inr (.inl (fun _ => 0))))]) (C := RX1) (T := TX1) (N := 9) (v := .ref q_5) hx hb hts inlX1 tyX1 tyX1_ok nmX1 hown hK hP hD hS 0 rfl rfl 5 (by decide) w_2_100 rfl hin rfl rfl rfl (Nat.le_of_ble_eq_true rfl) rfl dX1_init_41 (fun H locs hP hD hS => ?_)
  refine lv_aload_n hx hb dX1_init_44 rfl (lv_at hl 0 rfl) ?_
  refine lv_bipush (v := 100) hx hb dX1_init_45 (by decide) ?_
  refine sk_newa (atype := .long) (ty := .long) (a0 := (100, .inr (.inl (fun _ => 0)))) (cA := cJ) (k1 := 6) (n1 := 409) hx hb hts w_1_151 rfl (fun _ _ h => h) 1 rfl hK hP hD hS hA (fun _ => vp_cell_l _ _ _) (by decide) (by decide) (Nat.le_of_ble_eq_true rfl) (Nat.le_of_ble_eq_true rfl) (Nat.le_of_ble_eq_true rfl) (Nat.le_of_ble_eq_true rfl) (Nat.le_of_ble_eq_true rfl) dX1_init_47 (fun q_6 H hP hD hS => ?_)
  have hP : va_P D vwCl [(h0, .inr (1, [.null, .ref q_1, .ref q_2, .ref q_3, .ref q_4, .ref q_5, .null, .int 0, .int 0])), (q_1, .inl (cI, 90, .inl (fun _ => 0))), (q_2, .inl (cI, 9, .inl (fun _ => 0))), (q_3, .inl (cI, 10, .inl (fun _ => 0))), (q_4, .inl (cJ, 100, .inr (.inl (fun _ => 0)))), (q_5, .inl (cJ, 100, .inr (.inl (fun _ => 0)))), (q_6, .inl (cJ, 100, .inr (.inl (fun _ => 0))))] H := hP
  have hD : va_D A [(h0, .inr (1, [.null, .ref q_1, .ref q_2, .ref q_3, .ref q_4, .ref q_5, .null, .int 0, .int 0])), (q_1, .inl (cI, 90, .inl (fun _ => 0))), (q_2, .inl (cI, 9, .inl (fun _ => 0))), (q_3, .inl (cI, 10, .inl (fun _ => 0))), (q_4, .inl (cJ, 100, .inr (.inl (fun _ => 0)))), (q_5, .inl (cJ, 100, .inr (.inl (fun _ => 0)))), (q_6, .inl (cJ, 100, .inr (.inl (fun _ => 0))))] := hD
  refine sk_putF (ws' := [(h0, .inr (1, [.null, .ref q_1, .ref q_2, .ref q_3, .ref q_4, .ref q_5, .ref q_6, .int 0, .int 0])), (q_1, .inl (cI, 90, .inl (fun _ => 0))), (q_2, .inl (cI, 9, .inl (fun _ => 0))), (q_3, .inl (cI, 10, .inl (fun _ => 0))), (q_4, .inl (cJ, 100, .inr (.inl (fun _ => 0)))), (q_5, .inl (cJ, 100, .inr (.inl (fun _ => 0)))), (q_6, .inl (cJ, 100, .inr (.inl (fun _ => 0))))]) (C := RX1) (T := TX1) (N := 9) (v := .ref q_6) hx hb hts inlX1 tyX1 tyX1_ok nmX1 hown hK hP hD hS 0 rfl rfl 6 (by decide) w_2_101 rfl hin rfl rfl rfl (Nat.le_of_ble_eq_true rfl) rfl dX1_init_49 (fun H locs hP hD hS => ?_)
  refine lv_aload_n hx hb dX1_init_52 rfl (lv_at hl 0 rfl) ?_
  refine lv_iconst (v := 0) hx hb dX1_init_53 (by decide) ?_
  refine sk_put (ws' := [(h0, .inr (1, [.null, .ref q_1, .ref q_2, .ref q_3, .ref q_4, .ref q_5, .ref q_6, .int 0, .int 0])), (q_1, .inl (cI, 90, .inl (fun _ => 0))), (q_2, .inl (cI, 9, .inl (fun _ => 0))), (q_3, .inl (cI, 10, .inl (fun _ => 0))), (q_4, .inl (cJ, 100, .inr (.inl (fun _ => 0)))), (q_5, .inl (cJ, 100, .inr (.inl (fun _ => 0)))), (q_6, .inl (cJ, 100, .inr (.inl (fun _ => 0))))]) (C := RX1) (T := TX1) (N := 9) (v := .int 0) hx hb hts inlX1 tyX1 tyX1_ok nmX1 hown hK hP hD hS 0 rfl rfl 7 (by decide) w_2_102 rfl rfl rfl (Nat.le_of_ble_eq_true rfl) rfl dX1_init_54 (fun H locs hP hD hS => ?_)
  refine lv_aload_n hx hb dX1_init_57 rfl (lv_at hl 0 rfl) ?_
  refine lv_iconst (v := 0) hx hb dX1_init_58 (by decide) ?_
  refine sk_put (ws' := [(h0, .inr (1, [.null, .ref q_1, .ref q_2, .ref q_3, .ref q_4, .ref q_5, .ref q_6, .int 0, .int 0])), (q_1, .inl (cI, 90, .inl (fun _ => 0))), (q_2, .inl (cI, 9, .inl (fun _ => 0))), (q_3, .inl (cI, 10, .inl (fun _ => 0))), (q_4, .inl (cJ, 100, .inr (.inl (fun _ => 0)))), (q_5, .inl (cJ, 100, .inr (.inl (fun _ => 0)))), (q_6, .inl (cJ, 100, .inr (.inl (fun _ => 0))))]) (C := RX1) (T := TX1) (N := 9) (v := .int 0) hx hb hts inlX1 tyX1 tyX1_ok nmX1 hown hK hP hD hS 0 rfl rfl 8 (by decide) w_2_103 rfl rfl rfl (Nat.le_of_ble_eq_true rfl) rfl dX1_init_59 (fun H locs hP hD hS => ?_)
  refine lv_aload_n hx hb dX1_init_62 rfl (lv_at hl 0 rfl) ?_
  refine lv_aload_n hx hb dX1_init_63 rfl (lv_at hl 1 rfl) ?_
  refine sk_putF (ws' := [(h0, .inr (1, [.ref tb, .ref q_1, .ref q_2, .ref q_3, .ref q_4, .ref q_5, .ref q_6, .int 0, .int 0])), (q_1, .inl (cI, 90, .inl (fun _ => 0))), (q_2, .inl (cI, 9, .inl (fun _ => 0))), (q_3, .inl (cI, 10, .inl (fun _ => 0))), (q_4, .inl (cJ, 100, .inr (.inl (fun _ => 0)))), (q_5, .inl (cJ, 100, .inr (.inl (fun _ => 0)))), (q_6, .inl (cJ, 100, .inr (.inl (fun _ => 0))))]) (C := RX1) (T := TX1) (N := 9) (v := .ref tb) hx hb hts inlX1 tyX1 tyX1_ok nmX1 hown hK hP hD hS 0 rfl rfl 0 (by decide) w_2_95 rfl hin rfl rfl rfl (Nat.le_of_ble_eq_true rfl) rfl dX1_init_64 (fun H locs hP hD hS => ?_)
  have hP := hP.sub (ws' := []) [] rfl
  have hD := hD.sub (ws' := []) [] (by decide) rfl
  exact sk_vret hx hb hr hlocks hK hP hD hS rfl (Nat.le_of_ble_eq_true rfl) (Nat.le_of_ble_eq_true rfl) dX1_init_67
end
section
theorem dX11_init_0 : decode cX11_init 0 = .ok (.aload_n 0, 1) := by decide +kernel
theorem dX11_init_1 : decode cX11_init 1 = .ok (.invokespecial 1, 3) := by decide +kernel
theorem dX11_init_4 : decode cX11_init 4 = .ok (.aload_n 0, 1) := by decide +kernel
theorem dX11_init_5 : decode cX11_init 5 = .ok (.new 7, 3) := by decide +kernel
theorem dX11_init_8 : decode cX11_init 8 = .ok (.dup, 1) := by decide +kernel
theorem dX11_init_9 : decode cX11_init 9 = .ok (.sipush 1600, 3) := by decide +kernel
theorem dX11_init_12 : decode cX11_init 12 = .ok (.invokespecial 9, 3) := by decide +kernel
theorem dX11_init_15 : decode cX11_init 15 = .ok (.putfield 12, 3) := by decide +kernel
theorem dX11_init_18 : decode cX11_init 18 = .ok (.aload_n 0, 1) := by decide +kernel
theorem dX11_init_19 : decode cX11_init 19 = .ok (.new 7, 3) := by decide +kernel
theorem dX11_init_22 : decode cX11_init 22 = .ok (.dup, 1) := by decide +kernel
theorem dX11_init_23 : decode cX11_init 23 = .ok (.bipush 31, 2) := by decide +kernel
theorem dX11_init_25 : decode cX11_init 25 = .ok (.invokespecial 9, 3) := by decide +kernel
theorem dX11_init_28 : decode cX11_init 28 = .ok (.putfield 18, 3) := by decide +kernel
theorem dX11_init_31 : decode cX11_init 31 = .ok (.aload_n 0, 1) := by decide +kernel
theorem dX11_init_32 : decode cX11_init 32 = .ok (.new 21, 3) := by decide +kernel
theorem dX11_init_35 : decode cX11_init 35 = .ok (.dup, 1) := by decide +kernel
theorem dX11_init_36 : decode cX11_init 36 = .ok (.aload_n 0, 1) := by decide +kernel
theorem dX11_init_37 : decode cX11_init 37 = .ok (.getfield 12, 3) := by decide +kernel
theorem dX11_init_40 : decode cX11_init 40 = .ok (.invokespecial 23, 3) := by decide +kernel
theorem dX11_init_43 : decode cX11_init 43 = .ok (.putfield 26, 3) := by decide +kernel
theorem dX11_init_46 : decode cX11_init 46 = .ok (.aload_n 0, 1) := by decide +kernel
theorem dX11_init_47 : decode cX11_init 47 = .ok (.new 30, 3) := by decide +kernel
theorem dX11_init_50 : decode cX11_init 50 = .ok (.dup, 1) := by decide +kernel
theorem dX11_init_51 : decode cX11_init 51 = .ok (.aload_n 0, 1) := by decide +kernel
theorem dX11_init_52 : decode cX11_init 52 = .ok (.getfield 26, 3) := by decide +kernel
theorem dX11_init_55 : decode cX11_init 55 = .ok (.invokespecial 32, 3) := by decide +kernel
theorem dX11_init_58 : decode cX11_init 58 = .ok (.putfield 35, 3) := by decide +kernel
theorem dX11_init_61 : decode cX11_init 61 = .ok (.aload_n 0, 1) := by decide +kernel
theorem dX11_init_62 : decode cX11_init 62 = .ok (.new 39, 3) := by decide +kernel
theorem dX11_init_65 : decode cX11_init 65 = .ok (.dup, 1) := by decide +kernel
theorem dX11_init_66 : decode cX11_init 66 = .ok (.aload_n 0, 1) := by decide +kernel
theorem dX11_init_67 : decode cX11_init 67 = .ok (.getfield 26, 3) := by decide +kernel
theorem dX11_init_70 : decode cX11_init 70 = .ok (.invokespecial 41, 3) := by decide +kernel
theorem dX11_init_73 : decode cX11_init 73 = .ok (.putfield 42, 3) := by decide +kernel
theorem dX11_init_76 : decode cX11_init 76 = .ok (.aload_n 0, 1) := by decide +kernel
theorem dX11_init_77 : decode cX11_init 77 = .ok (.new 46, 3) := by decide +kernel
theorem dX11_init_80 : decode cX11_init 80 = .ok (.dup, 1) := by decide +kernel
theorem dX11_init_81 : decode cX11_init 81 = .ok (.invokespecial 48, 3) := by decide +kernel
theorem dX11_init_84 : decode cX11_init 84 = .ok (.putfield 49, 3) := by decide +kernel
theorem dX11_init_87 : decode cX11_init 87 = .ok (.aload_n 0, 1) := by decide +kernel
theorem dX11_init_88 : decode cX11_init 88 = .ok (.new 46, 3) := by decide +kernel
theorem dX11_init_91 : decode cX11_init 91 = .ok (.dup, 1) := by decide +kernel
theorem dX11_init_92 : decode cX11_init 92 = .ok (.invokespecial 48, 3) := by decide +kernel
theorem dX11_init_95 : decode cX11_init 95 = .ok (.putfield 53, 3) := by decide +kernel
theorem dX11_init_98 : decode cX11_init 98 = .ok (.aload_n 0, 1) := by decide +kernel
theorem dX11_init_99 : decode cX11_init 99 = .ok (.new 56, 3) := by decide +kernel
theorem dX11_init_102 : decode cX11_init 102 = .ok (.dup, 1) := by decide +kernel
theorem dX11_init_103 : decode cX11_init 103 = .ok (.invokespecial 58, 3) := by decide +kernel
theorem dX11_init_106 : decode cX11_init 106 = .ok (.putfield 59, 3) := by decide +kernel
theorem dX11_init_109 : decode cX11_init 109 = .ok (.aload_n 0, 1) := by decide +kernel
theorem dX11_init_110 : decode cX11_init 110 = .ok (.new 56, 3) := by decide +kernel
theorem dX11_init_113 : decode cX11_init 113 = .ok (.dup, 1) := by decide +kernel
theorem dX11_init_114 : decode cX11_init 114 = .ok (.invokespecial 58, 3) := by decide +kernel
theorem dX11_init_117 : decode cX11_init 117 = .ok (.putfield 63, 3) := by decide +kernel
theorem dX11_init_120 : decode cX11_init 120 = .ok (.aload_n 0, 1) := by decide +kernel
theorem dX11_init_121 : decode cX11_init 121 = .ok (.new 66, 3) := by decide +kernel
theorem dX11_init_124 : decode cX11_init 124 = .ok (.dup, 1) := by decide +kernel
theorem dX11_init_125 : decode cX11_init 125 = .ok (.invokespecial 68, 3) := by decide +kernel
theorem dX11_init_128 : decode cX11_init 128 = .ok (.putfield 69, 3) := by decide +kernel
theorem dX11_init_131 : decode cX11_init 131 = .ok (.aload_n 0, 1) := by decide +kernel
theorem dX11_init_132 : decode cX11_init 132 = .ok (.new 73, 3) := by decide +kernel
theorem dX11_init_135 : decode cX11_init 135 = .ok (.dup, 1) := by decide +kernel
theorem dX11_init_136 : decode cX11_init 136 = .ok (.invokespecial 75, 3) := by decide +kernel
theorem dX11_init_139 : decode cX11_init 139 = .ok (.putfield 76, 3) := by decide +kernel
theorem dX11_init_142 : decode cX11_init 142 = .ok (.aload_n 0, 1) := by decide +kernel
theorem dX11_init_143 : decode cX11_init 143 = .ok (.new 80, 3) := by decide +kernel
theorem dX11_init_146 : decode cX11_init 146 = .ok (.dup, 1) := by decide +kernel
theorem dX11_init_147 : decode cX11_init 147 = .ok (.aload_n 0, 1) := by decide +kernel
theorem dX11_init_148 : decode cX11_init 148 = .ok (.getfield 76, 3) := by decide +kernel
theorem dX11_init_151 : decode cX11_init 151 = .ok (.invokespecial 82, 3) := by decide +kernel
theorem dX11_init_154 : decode cX11_init 154 = .ok (.putfield 85, 3) := by decide +kernel
theorem dX11_init_157 : decode cX11_init 157 = .ok (.aload_n 0, 1) := by decide +kernel
theorem dX11_init_158 : decode cX11_init 158 = .ok (.bipush 9, 2) := by decide +kernel
theorem dX11_init_160 : decode cX11_init 160 = .ok (.newarray .int, 2) := by decide +kernel
theorem dX11_init_162 : decode cX11_init 162 = .ok (.putfield 89, 3) := by decide +kernel
theorem dX11_init_165 : decode cX11_init 165 = .ok (.aload_n 0, 1) := by decide +kernel
theorem dX11_init_166 : decode cX11_init 166 = .ok (.bipush 9, 2) := by decide +kernel
theorem dX11_init_168 : decode cX11_init 168 = .ok (.newarray .int, 2) := by decide +kernel
theorem dX11_init_170 : decode cX11_init 170 = .ok (.putfield 93, 3) := by decide +kernel
theorem dX11_init_173 : decode cX11_init 173 = .ok (.aload_n 0, 1) := by decide +kernel
theorem dX11_init_174 : decode cX11_init 174 = .ok (.bipush 16, 2) := by decide +kernel
theorem dX11_init_176 : decode cX11_init 176 = .ok (.newarray .int, 2) := by decide +kernel
theorem dX11_init_178 : decode cX11_init 178 = .ok (.putfield 96, 3) := by decide +kernel
theorem dX11_init_181 : decode cX11_init 181 = .ok (.aload_n 0, 1) := by decide +kernel
theorem dX11_init_182 : decode cX11_init 182 = .ok (.iconst 0, 1) := by decide +kernel
theorem dX11_init_183 : decode cX11_init 183 = .ok (.putfield 99, 3) := by decide +kernel
theorem dX11_init_186 : decode cX11_init 186 = .ok (.aload_n 0, 1) := by decide +kernel
theorem dX11_init_187 : decode cX11_init 187 = .ok (.bipush 6, 2) := by decide +kernel
theorem dX11_init_189 : decode cX11_init 189 = .ok (.newarray .int, 2) := by decide +kernel
theorem dX11_init_191 : decode cX11_init 191 = .ok (.putfield 103, 3) := by decide +kernel
theorem dX11_init_194 : decode cX11_init 194 = .ok (.aload_n 0, 1) := by decide +kernel
theorem dX11_init_195 : decode cX11_init 195 = .ok (.lconst 1, 1) := by decide +kernel
theorem dX11_init_196 : decode cX11_init 196 = .ok (.putfield 106, 3) := by decide +kernel
theorem dX11_init_199 : decode cX11_init 199 = .ok (.return_, 1) := by decide +kernel
theorem w_1_27 : (Cond.methodLink RX11 1 objectInit) ∈ wsL_law := sk_mem (ck_1 _ (List.mem_of_getElem? (i := 27) rfl)) rfl
theorem w_1_30 : (Cond.classLink RX11 7 RX10) ∈ wsL_law := sk_mem (ck_1 _ (List.mem_of_getElem? (i := 30) rfl)) rfl
theorem w_1_31 : (Cond.instantiable RX10 2) ∈ wsL_law := sk_mem (ck_1 _ (List.mem_of_getElem? (i := 31) rfl)) rfl
theorem w_1_2 : (Cond.initialized RX10) ∈ wsL_law := sk_mem (ck_1 _ (List.mem_of_getElem? (i := 2) rfl)) rfl
theorem w_1_32 : (Cond.methodLink RX11 9 yX10_init) ∈ wsL_law := sk_mem (ck_1 _ (List.mem_of_getElem? (i := 32) rfl)) rfl
theorem w_1_33 : (Cond.instanceMethod yX10_init) ∈ wsL_law := sk_mem (ck_1 _ (List.mem_of_getElem? (i := 33) rfl)) rfl
theorem w_2_123 : (Cond.fieldLink RX11 12 "SameKeeper" "tape" "LSameKeeper$Tape;") ∈ wsL_law := sk_mem (ck_2 _ (List.mem_of_getElem? (i := 123) rfl)) rfl
theorem w_2_124 : (Cond.fieldLink RX11 18 "SameKeeper" "picture" "LSameKeeper$Tape;") ∈ wsL_law := sk_mem (ck_2 _ (List.mem_of_getElem? (i := 124) rfl)) rfl
theorem w_1_50 : (Cond.classLink RX11 21 RX6) ∈ wsL_law := sk_mem (ck_1 _ (List.mem_of_getElem? (i := 50) rfl)) rfl
theorem w_1_51 : (Cond.instantiable RX6 8) ∈ wsL_law := sk_mem (ck_1 _ (List.mem_of_getElem? (i := 51) rfl)) rfl
theorem w_1_4 : (Cond.initialized RX6) ∈ wsL_law := sk_mem (ck_1 _ (List.mem_of_getElem? (i := 4) rfl)) rfl
theorem w_1_52 : (Cond.methodLink RX11 23 yX6_init) ∈ wsL_law := sk_mem (ck_1 _ (List.mem_of_getElem? (i := 52) rfl)) rfl
theorem w_1_53 : (Cond.instanceMethod yX6_init) ∈ wsL_law := sk_mem (ck_1 _ (List.mem_of_getElem? (i := 53) rfl)) rfl
theorem w_2_125 : (Cond.fieldLink RX11 26 "SameKeeper" "reader" "LSameKeeper$Reader;") ∈ wsL_law := sk_mem (ck_2 _ (List.mem_of_getElem? (i := 125) rfl)) rfl
theorem w_1_88 : (Cond.classLink RX11 30 RX3) ∈ wsL_law := sk_mem (ck_1 _ (List.mem_of_getElem? (i := 88) rfl)) rfl
theorem w_1_89 : (Cond.instantiable RX3 3) ∈ wsL_law := sk_mem (ck_1 _ (List.mem_of_getElem? (i := 89) rfl)) rfl
theorem w_1_5 : (Cond.initialized RX3) ∈ wsL_law := sk_mem (ck_1 _ (List.mem_of_getElem? (i := 5) rfl)) rfl
theorem w_1_90 : (Cond.methodLink RX11 32 yX3_init) ∈ wsL_law := sk_mem (ck_1 _ (List.mem_of_getElem? (i := 90) rfl)) rfl
theorem w_1_91 : (Cond.instanceMethod yX3_init) ∈ wsL_law := sk_mem (ck_1 _ (List.mem_of_getElem? (i := 91) rfl)) rfl
theorem w_2_126 : (Cond.fieldLink RX11 35 "SameKeeper" "lockText" "LSameKeeper$LockText;") ∈ wsL_law := sk_mem (ck_2 _ (List.mem_of_getElem? (i := 126) rfl)) rfl
theorem w_1_117 : (Cond.classLink RX11 39 RX5) ∈ wsL_law := sk_mem (ck_1 _ (List.mem_of_getElem? (i := 117) rfl)) rfl
theorem w_1_118 : (Cond.instantiable RX5 4) ∈ wsL_law := sk_mem (ck_1 _ (List.mem_of_getElem? (i := 118) rfl)) rfl
theorem w_1_7 : (Cond.initialized RX5) ∈ wsL_law := sk_mem (ck_1 _ (List.mem_of_getElem? (i := 7) rfl)) rfl
theorem w_1_119 : (Cond.methodLink RX11 41 yX5_init) ∈ wsL_law := sk_mem (ck_1 _ (List.mem_of_getElem? (i := 119) rfl)) rfl
theorem w_1_120 : (Cond.instanceMethod yX5_init) ∈ wsL_law := sk_mem (ck_1 _ (List.mem_of_getElem? (i := 120) rfl)) rfl
theorem w_2_127 : (Cond.fieldLink RX11 42 "SameKeeper" "question" "LSameKeeper$Question;") ∈ wsL_law := sk_mem (ck_2 _ (List.mem_of_getElem? (i := 127) rfl)) rfl
theorem w_1_167 : (Cond.classLink RX11 46 RX2) ∈ wsL_law := sk_mem (ck_1 _ (List.mem_of_getElem? (i := 167) rfl)) rfl
theorem w_1_168 : (Cond.instantiable RX2 10) ∈ wsL_law := sk_mem (ck_1 _ (List.mem_of_getElem? (i := 168) rfl)) rfl
theorem w_1_9 : (Cond.initialized RX2) ∈ wsL_law := sk_mem (ck_1 _ (List.mem_of_getElem? (i := 9) rfl)) rfl
theorem w_1_170 : (Cond.instanceMethod yX2_init) ∈ wsL_law := sk_mem (ck_1 _ (List.mem_of_getElem? (i := 170) rfl)) rfl
theorem w_2_128 : (Cond.fieldLink RX11 49 "SameKeeper" "held" "LSameKeeper$Lock;") ∈ wsL_law := sk_mem (ck_2 _ (List.mem_of_getElem? (i := 128) rfl)) rfl
theorem w_2_129 : (Cond.fieldLink RX11 53 "SameKeeper" "draft" "LSameKeeper$Lock;") ∈ wsL_law := sk_mem (ck_2 _ (List.mem_of_getElem? (i := 129) rfl)) rfl
theorem w_1_224 : (Cond.classLink RX11 56 RX7) ∈ wsL_law := sk_mem (ck_1 _ (List.mem_of_getElem? (i := 224) rfl)) rfl
theorem w_2_130 : (Cond.fieldLink RX11 59 "SameKeeper" "now" "LSameKeeper$State;") ∈ wsL_law := sk_mem (ck_2 _ (List.mem_of_getElem? (i := 130) rfl)) rfl
theorem w_2_131 : (Cond.fieldLink RX11 63 "SameKeeper" "trial" "LSameKeeper$State;") ∈ wsL_law := sk_mem (ck_2 _ (List.mem_of_getElem? (i := 131) rfl)) rfl
theorem w_2_31 : (Cond.classLink RX11 66 RX4) ∈ wsL_law := sk_mem (ck_2 _ (List.mem_of_getElem? (i := 31) rfl)) rfl
theorem w_2_32 : (Cond.instantiable RX4 5) ∈ wsL_law := sk_mem (ck_2 _ (List.mem_of_getElem? (i := 32) rfl)) rfl
theorem w_1_11 : (Cond.initialized RX4) ∈ wsL_law := sk_mem (ck_1 _ (List.mem_of_getElem? (i := 11) rfl)) rfl
theorem w_2_33 : (Cond.methodLink RX11 68 yX4_init) ∈ wsL_law := sk_mem (ck_2 _ (List.mem_of_getElem? (i := 33) rfl)) rfl
theorem w_2_34 : (Cond.instanceMethod yX4_init) ∈ wsL_law := sk_mem (ck_2 _ (List.mem_of_getElem? (i := 34) rfl)) rfl
theorem w_2_132 : (Cond.fieldLink RX11 69 "SameKeeper" "past" "LSameKeeper$Past;") ∈ wsL_law := sk_mem (ck_2 _ (List.mem_of_getElem? (i := 132) rfl)) rfl
theorem w_2_57 : (Cond.classLink RX11 73 RX9) ∈ wsL_law := sk_mem (ck_2 _ (List.mem_of_getElem? (i := 57) rfl)) rfl
theorem w_2_58 : (Cond.instantiable RX9 6) ∈ wsL_law := sk_mem (ck_2 _ (List.mem_of_getElem? (i := 58) rfl)) rfl
theorem w_1_12 : (Cond.initialized RX9) ∈ wsL_law := sk_mem (ck_1 _ (List.mem_of_getElem? (i := 12) rfl)) rfl
theorem w_2_60 : (Cond.instanceMethod yX9_init) ∈ wsL_law := sk_mem (ck_2 _ (List.mem_of_getElem? (i := 60) rfl)) rfl
theorem w_2_133 : (Cond.fieldLink RX11 76 "SameKeeper" "table" "LSameKeeper$Table;") ∈ wsL_law := sk_mem (ck_2 _ (List.mem_of_getElem? (i := 133) rfl)) rfl
theorem w_2_89 : (Cond.classLink RX11 80 RX1) ∈ wsL_law := sk_mem (ck_2 _ (List.mem_of_getElem? (i := 89) rfl)) rfl
theorem w_2_90 : (Cond.instantiable RX1 9) ∈ wsL_law := sk_mem (ck_2 _ (List.mem_of_getElem? (i := 90) rfl)) rfl
theorem w_1_13 : (Cond.initialized RX1) ∈ wsL_law := sk_mem (ck_1 _ (List.mem_of_getElem? (i := 13) rfl)) rfl
theorem w_2_91 : (Cond.methodLink RX11 82 yX1_init) ∈ wsL_law := sk_mem (ck_2 _ (List.mem_of_getElem? (i := 91) rfl)) rfl
theorem w_2_92 : (Cond.instanceMethod yX1_init) ∈ wsL_law := sk_mem (ck_2 _ (List.mem_of_getElem? (i := 92) rfl)) rfl
theorem w_2_134 : (Cond.fieldLink RX11 85 "SameKeeper" "graph" "LSameKeeper$Graph;") ∈ wsL_law := sk_mem (ck_2 _ (List.mem_of_getElem? (i := 134) rfl)) rfl
theorem w_2_135 : (Cond.fieldLink RX11 89 "SameKeeper" "row" "[I") ∈ wsL_law := sk_mem (ck_2 _ (List.mem_of_getElem? (i := 135) rfl)) rfl
theorem w_2_136 : (Cond.fieldLink RX11 93 "SameKeeper" "otherRow" "[I") ∈ wsL_law := sk_mem (ck_2 _ (List.mem_of_getElem? (i := 136) rfl)) rfl
theorem w_2_137 : (Cond.fieldLink RX11 96 "SameKeeper" "heardRows" "[I") ∈ wsL_law := sk_mem (ck_2 _ (List.mem_of_getElem? (i := 137) rfl)) rfl
theorem w_2_138 : (Cond.fieldLink RX11 99 "SameKeeper" "heardCount" "I") ∈ wsL_law := sk_mem (ck_2 _ (List.mem_of_getElem? (i := 138) rfl)) rfl
theorem w_2_139 : (Cond.fieldLink RX11 103 "SameKeeper" "refused" "[I") ∈ wsL_law := sk_mem (ck_2 _ (List.mem_of_getElem? (i := 139) rfl)) rfl
theorem w_2_140 : (Cond.fieldLink RX11 106 "SameKeeper" "drawn" "J") ∈ wsL_law := sk_mem (ck_2 _ (List.mem_of_getElem? (i := 140) rfl)) rfl
theorem w_1_26 : (Cond.code yX11_init cX11_init 1 none) ∈ wsL_law := sk_mem (ck_1 _ (List.mem_of_getElem? (i := 26) rfl)) rfl
set_option maxHeartbeats 4000000 in
set_option maxRecDepth 100000 in
theorem c_X_init (l : Launch) (D : va_G) (cI cJ cC cZ cS : ClassId) (x0 : Nat)  : skM l yX11_init cX11_init 1 none 3 63 124 12099 D (skT cI cJ cC cZ cS) [.ref x0] [(x0, .inr (11, [.null, .null, .null, .null, .null, .null, .null, .null, .null, .null, .null, .null, .null, .null, .null, .int 0, .null, .long 0]))] (skV D (skT cI cJ cC cZ cS) (fun (u : va_W) => ∃ (q : Nat → Nat), u = [(x0, .inr (11, [.ref (q 0), .ref (q 1), .ref (q 2), .ref (q 3), .ref (q 4), .ref (q 5), .ref (q 6), .ref (q 7), .ref (q 8), .ref (q 9), .ref (q 10), .ref (q 11), .ref (q 12), .ref (q 13), .ref (q 14), .int 0, .ref (q 16), .long 1])), (q 0, .inr (10, [.ref (q 20), .int 0])), (q 20, .inl (cI, 1600, .inl (fun _ => 0))), (q 1, .inr (10, [.ref (q 21), .int 0])), (q 21, .inl (cI, 31, .inl (fun _ => 0))), (q 2, .inr (6, [.ref (q 0), .int 0, .int 0, .int 0, .int (-1), .int 0, .int 0, .int (-1)])), (q 3, .inr (3, [.ref (q 2), .ref (q 22), .ref (q 23)])), (q 6, .inr (2, [.ref (q 24), .ref (q 25), .ref (q 26), .ref (q 27), .ref (q 28), .int 0, .int 0, .int 0, .int 0, .int 0])), (q 24, .inr (0, [.ref (q 29), .ref (q 30), .ref (q 31), .ref (q 32), .int 0, .int 0])), (q 29, .inl (cI, 1600, .inl (fun _ => 0))), (q 25, .inl (cI, 9, .inl (fun _ => 0))), (q 26, .inl (cI, 9, .inl (fun _ => 0))), (q 27, .inl (cI, 3, .inl (fun _ => 0))), (q 28, .inl (cI, 3, .inl (fun _ => 0))), (q 7, .inr (7, [.ref (q 33), .ref (q 34), .int 0, .int 0, .int 0, .int 0, .int 0])), (q 9, .inr (4, [.ref (q 35), .int 0, .ref (q 36), .ref (q 37), .ref (q 38)])), (q 16, .inl (cI, 6, .inl (fun _ => 0)))])) := by
  refine skM_of (by decide) (Nat.le_of_ble_eq_true rfl) ?_
  intro p e s m below meth c A ls E hP hD hl
  obtain ⟨hx, hb, hr, hml, hlocks, hin, hown, hts, hK, hA⟩ := E
  have hown : s.vm.findClass RX11 = some m.cls := hown
  have hin : meth.name = "<init>" := hin
  have hS : va_S A s.heap s.heap [] := va_S.rf
  have hl : lv_has ls 1 [(0, .ref x0)] := hl
  refine lv_aload_n hx hb dX11_init_0 rfl (lv_at hl 0 rfl) ?_
  refine W.objInit hx hb hown (hts _ w_1_27) (hts _ w_1_28) (hts _ w_1_29) rfl (by rw [hml]; exact hl.1) rfl dX11_init_1 (Nat.le_of_ble_eq_true rfl) (Nat.le_of_ble_eq_true rfl) ?_
  refine W.eq (g2 := F0 m 4 ls []) rfl ?_
  refine lv_aload_n hx hb dX11_init_4 rfl (lv_at hl 0 rfl) ?_
  refine sk_new (ci := 10) (fs := [.null, .int 0]) (C := RX10) (T := TX10) (N := 2) (k1 := 1) (n1 := 2) hx hb hts inlX10 tyX10 tyX10_ok hown w_1_30 w_1_31 w_1_2 hK hP hD hS hA rfl (fun j hj => by rcases (show j = 0 ∨ j = 1 by omega) with rfl | rfl <;> rfl) (Nat.le_of_ble_eq_true rfl) (Nat.le_of_ble_eq_true rfl) (Nat.le_of_ble_eq_true rfl) (Nat.le_of_ble_eq_true rfl) dX11_init_5 (fun q_1 H hP hD hS => ?_)
  have hP : va_P D vwCl [(x0, .inr (11, [.null, .null, .null, .null, .null, .null, .null, .null, .null, .null, .null, .null, .null, .null, .null, .int 0, .null, .long 0])), (q_1, .inr (10, [.null, .int 0]))] H := hP
  have hD : va_D A [(x0, .inr (11, [.null, .null, .null, .null, .null, .null, .null, .null, .null, .null, .null, .null, .null, .null, .null, .int 0, .null, .long 0])), (q_1, .inr (10, [.null, .int 0]))] := hD
  refine lv_dup hx hb dX11_init_8 rfl ?_
  refine lv_sipush (v := 1600) hx hb dX11_init_9 (by decide) ?_
  refine sk_Iv (n := 1) (rest := [.ref q_1, .ref x0]) (wr := [(x0, .inr (11, [.null, .null, .null, .null, .null, .null, .null, .null, .null, .null, .null, .null, .null, .null, .null, .int 0, .null, .long 0]))]) ⟨hx, hb, hml, hown, hts⟩ hl.1 (c_Tape_init_1600 l D cI cJ cC cZ cS q_1) w_1_32 w_1_33 w_1_2 w_1_34 rfl (by decide +kernel) ⟨⟨(Nat.le_of_ble_eq_true rfl), (Nat.le_of_ble_eq_true rfl)⟩, (Nat.le_of_ble_eq_true rfl), (Nat.le_of_ble_eq_true rfl)⟩ hK hP hD hS hA [1] [0] rfl rfl (by decide) (by decide) (by decide) rfl rfl (Nat.le_of_ble_eq_true rfl) dX11_init_12 (fun u H locs hw hP hD hS => ?_)
  obtain ⟨k1_2, rfl⟩ := hw
  have hP : va_P D vwCl [(x0, .inr (11, [.null, .null, .null, .null, .null, .null, .null, .null, .null, .null, .null, .null, .null, .null, .null, .int 0, .null, .long 0])), (q_1, .inr (10, [.ref k1_2, .int 0])), (k1_2, .inl (cI, 1600, .inl (fun _ => 0)))] H := hP
  have hD : va_D A [(x0, .inr (11, [.null, .null, .null, .null, .null, .null, .null, .null, .null, .null, .null, .null, .null, .null, .null, .int 0, .null, .long 0])), (q_1, .inr (10, [.ref k1_2, .int 0])), (k1_2, .inl (cI, 1600, .inl (fun _ => 0)))] := hD
  refine W.widen (k := 2) (n := 1602) (Nat.le_of_ble_eq_true rfl) (Nat.le_of_ble_eq_true rfl) ?_
  refine sk_putF (ws' := [(x0, .inr (11, [.ref q_1, .null, .null, .null, .null, .null, .null, .null, .null, .null, .null, .null, .null, .null, .null, .int 0, .null, .long 0])), (q_1, .inr (10, [.ref k1_2, .int 0])), (k1_2, .inl (cI, 1600, .inl (fun _ => 0)))]) (C := RX11) (T := TX11) (N := 18) (v := .ref q_1) hx hb hts inlX11 tyX11 tyX11_ok nmX11 hown hK hP hD hS 0 rfl rfl 0 (by decide) w_2_123 rfl hin rfl rfl rfl (Nat.le_of_ble_eq_true rfl) rfl dX11_init_15 (fun H locs hP hD hS => ?_)
  refine lv_aload_n hx hb dX11_init_18 rfl (lv_at hl 0 rfl) ?_
  refine sk_new (ci := 10) (fs := [.null, .int 0]) (C := RX10) (T := TX10) (N := 2) (k1 := 3) (n1 := 1604) hx hb hts inlX10 tyX10 tyX10_ok hown w_1_30 w_1_31 w_1_2 hK hP hD hS hA rfl (fun j hj => by rcases (show j = 0 ∨ j = 1 by omega) with rfl | rfl <;> rfl) (Nat.le_of_ble_eq_true rfl) (Nat.le_of_ble_eq_true rfl) (Nat.le_of_ble_eq_true rfl) (Nat.le_of_ble_eq_true rfl) dX11_init_19 (fun q_3 H hP hD hS => ?_)
  have hP : va_P D vwCl [(x0, .inr (11, [.ref q_1, .null, .null, .null, .null, .null, .null, .null, .null, .null, .null, .null, .null, .null, .null, .int 0, .null, .long 0])), (q_1, .inr (10, [.ref k1_2, .int 0])), (k1_2, .inl (cI, 1600, .inl (fun _ => 0))), (q_3, .inr (10, [.null, .int 0]))] H := hP
  have hD : va_D A [(x0, .inr (11, [.ref q_1, .null, .null, .null, .null, .null, .null, .null, .null, .null, .null, .null, .null, .null, .null, .int 0, .null, .long 0])), (q_1, .inr (10, [.ref k1_2, .int 0])), (k1_2, .inl (cI, 1600, .inl (fun _ => 0))), (q_3, .inr (10, [.null, .int 0]))] := hD
  refine lv_dup hx hb dX11_init_22 rfl ?_
  refine lv_bipush (v := 31) hx hb dX11_init_23 (by decide) ?_
  refine sk_Iv (n := 1) (rest := [.ref q_3, .ref x0]) (wr := [(x0, .inr (11, [.ref q_1, .null, .null, .null, .null, .null, .null, .null, .null, .null, .null, .null, .null, .null, .null, .int 0, .null, .long 0])), (q_1, .inr (10, [.ref k1_2, .int 0])), (k1_2, .inl (cI, 1600, .inl (fun _ => 0)))]) ⟨hx, hb, hml, hown, hts⟩ hl.1 (c_Tape_init_31 l D cI cJ cC cZ cS q_3) w_1_32 w_1_33 w_1_2 w_1_34 rfl (by decide +kernel) ⟨⟨(Nat.le_of_ble_eq_true rfl), (Nat.le_of_ble_eq_true rfl)⟩, (Nat.le_of_ble_eq_true rfl), (Nat.le_of_ble_eq_true rfl)⟩ hK hP hD hS hA [3] [0, 1, 2] rfl rfl (by decide) (by decide) (by decide) rfl rfl (Nat.le_of_ble_eq_true rfl) dX11_init_25 (fun u H locs hw hP hD hS => ?_)
  obtain ⟨k1_4, rfl⟩ := hw
  have hP : va_P D vwCl [(x0, .inr (11, [.ref q_1, .null, .null, .null, .null, .null, .null, .null, .null, .null, .null, .null, .null, .null, .null, .int 0, .null, .long 0])), (q_1, .inr (10, [.ref k1_2, .int 0])), (k1_2, .inl (cI, 1600, .inl (fun _ => 0))), (q_3, .inr (10, [.ref k1_4, .int 0])), (k1_4, .inl (cI, 31, .inl (fun _ => 0)))] H := hP
  have hD : va_D A [(x0, .inr (11, [.ref q_1, .null, .null, .null, .null, .null, .null, .null, .null, .null, .null, .null, .null, .null, .null, .int 0, .null, .long 0])), (q_1, .inr (10, [.ref k1_2, .int 0])), (k1_2, .inl (cI, 1600, .inl (fun _ => 0))), (q_3, .inr (10, [.ref k1_4, .int 0])), (k1_4, .inl (cI, 31, .inl (fun _ => 0)))] := hD
  refine W.widen (k := 4) (n := 1635) (Nat.le_of_ble_eq_true rfl) (Nat.le_of_ble_eq_true rfl) ?_
  refine sk_putF (ws' := [(x0, .inr (11, [.ref q_1, .ref q_3, .null, .null, .null, .null, .null, .null, .null, .null, .null, .null, .null, .null, .null, .int 0, .null, .long 0])), (q_1, .inr (10, [.ref k1_2, .int 0])), (k1_2, .inl (cI, 1600, .inl (fun _ => 0))), (q_3, .inr (10, [.ref k1_4, .int 0])), (k1_4, .inl (cI, 31, .inl (fun _ => 0)))]) (C := RX11) (T := TX11) (N := 18) (v := .ref q_3) hx hb hts inlX11 tyX11 tyX11_ok nmX11 hown hK hP hD hS 0 rfl rfl 1 (by decide) w_2_124 rfl hin rfl rfl rfl (Nat.le_of_ble_eq_true rfl) rfl dX11_init_28 (fun H locs hP hD hS => ?_)
  refine lv_aload_n hx hb dX11_init_31 rfl (lv_at hl 0 rfl) ?_
  refine sk_new (ci := 6) (fs := [.null, .int 0, .int 0, .int 0, .int 0, .int 0, .int 0, .int 0]) (C := RX6) (T := TX6) (N := 8) (k1 := 5) (n1 := 1643) hx hb hts inlX6 tyX6 tyX6_ok hown w_1_50 w_1_51 w_1_4 hK hP hD hS hA rfl (fun j hj => by rcases (show j = 0 ∨ j = 1 ∨ j = 2 ∨ j = 3 ∨ j = 4 ∨ j = 5 ∨ j = 6 ∨ j = 7 by omega) with rfl | rfl | rfl | rfl | rfl | rfl | rfl | rfl <;> rfl) (Nat.le_of_ble_eq_true rfl) (Nat.le_of_ble_eq_true rfl) (Nat.le_of_ble_eq_true rfl) (Nat.le_of_ble_eq_true rfl) dX11_init_32 (fun q_5 H hP hD hS => ?_)
  have hP : va_P D vwCl [(x0, .inr (11, [.ref q_1, .ref q_3, .null, .null, .null, .null, .null, .null, .null, .null, .null, .null, .null, .null, .null, .int 0, .null, .long 0])), (q_1, .inr (10, [.ref k1_2, .int 0])), (k1_2, .inl (cI, 1600, .inl (fun _ => 0))), (q_3, .inr (10, [.ref k1_4, .int 0])), (k1_4, .inl (cI, 31, .inl (fun _ => 0))), (q_5, .inr (6, [.null, .int 0, .int 0, .int 0, .int 0, .int 0, .int 0, .int 0]))] H := hP
  have hD : va_D A [(x0, .inr (11, [.ref q_1, .ref q_3, .null, .null, .null, .null, .null, .null, .null, .null, .null, .null, .null, .null, .null, .int 0, .null, .long 0])), (q_1, .inr (10, [.ref k1_2, .int 0])), (k1_2, .inl (cI, 1600, .inl (fun _ => 0))), (q_3, .inr (10, [.ref k1_4, .int 0])), (k1_4, .inl (cI, 31, .inl (fun _ => 0))), (q_5, .inr (6, [.null, .int 0, .int 0, .int 0, .int 0, .int 0, .int 0, .int 0]))] := hD
  refine lv_dup hx hb dX11_init_35 rfl ?_
  refine lv_aload_n hx hb dX11_init_36 rfl (lv_at hl 0 rfl) ?_
  refine sk_get (v := .ref q_1) (C := RX11) (T := TX11) (N := 18) hx hb hts inlX11 hown hK hP 0 rfl rfl 0 (by decide) w_2_123 rfl dX11_init_37 ?_
  refine sk_Iv (n := 1) (rest := [.ref q_5, .ref x0]) (wr := [(x0, .inr (11, [.ref q_1, .ref q_3, .null, .null, .null, .null, .null, .null, .null, .null, .null, .null, .null, .null, .null, .int 0, .null, .long 0])), (q_1, .inr (10, [.ref k1_2, .int 0])), (k1_2, .inl (cI, 1600, .inl (fun _ => 0))), (q_3, .inr (10, [.ref k1_4, .int 0])), (k1_4, .inl (cI, 31, .inl (fun _ => 0)))]) ⟨hx, hb, hml, hown, hts⟩ hl.1 (c_Reader_init l D cI cJ cC cZ cS q_5 q_1) w_1_52 w_1_53 w_1_4 w_1_54 rfl (by decide +kernel) ⟨⟨(Nat.le_of_ble_eq_true rfl), (Nat.le_of_ble_eq_true rfl)⟩, (Nat.le_of_ble_eq_true rfl), (Nat.le_of_ble_eq_true rfl)⟩ hK hP hD hS hA [5] [0, 1, 2, 3, 4] rfl rfl (by decide) (by decide) (by decide) rfl rfl (Nat.le_of_ble_eq_true rfl) dX11_init_40 (fun u H locs hw hP hD hS => ?_)
  obtain rfl := hw
  have hP : va_P D vwCl [(x0, .inr (11, [.ref q_1, .ref q_3, .null, .null, .null, .null, .null, .null, .null, .null, .null, .null, .null, .null, .null, .int 0, .null, .long 0])), (q_1, .inr (10, [.ref k1_2, .int 0])), (k1_2, .inl (cI, 1600, .inl (fun _ => 0))), (q_3, .inr (10, [.ref k1_4, .int 0])), (k1_4, .inl (cI, 31, .inl (fun _ => 0))), (q_5, .inr (6, [.ref q_1, .int 0, .int 0, .int 0, .int (-1), .int 0, .int 0, .int (-1)]))] H := hP
  have hD : va_D A [(x0, .inr (11, [.ref q_1, .ref q_3, .null, .null, .null, .null, .null, .null, .null, .null, .null, .null, .null, .null, .null, .int 0, .null, .long 0])), (q_1, .inr (10, [.ref k1_2, .int 0])), (k1_2, .inl (cI, 1600, .inl (fun _ => 0))), (q_3, .inr (10, [.ref k1_4, .int 0])), (k1_4, .inl (cI, 31, .inl (fun _ => 0))), (q_5, .inr (6, [.ref q_1, .int 0, .int 0, .int 0, .int (-1), .int 0, .int 0, .int (-1)]))] := hD
  refine W.widen (k := 5) (n := 1643) (Nat.le_of_ble_eq_true rfl) (Nat.le_of_ble_eq_true rfl) ?_
  refine sk_putF (ws' := [(x0, .inr (11, [.ref q_1, .ref q_3, .ref q_5, .null, .null, .null, .null, .null, .null, .null, .null, .null, .null, .null, .null, .int 0, .null, .long 0])), (q_1, .inr (10, [.ref k1_2, .int 0])), (k1_2, .inl (cI, 1600, .inl (fun _ => 0))), (q_3, .inr (10, [.ref k1_4, .int 0])), (k1_4, .inl (cI, 31, .inl (fun _ => 0))), (q_5, .inr (6, [.ref q_1, .int 0, .int 0, .int 0, .int (-1), .int 0, .int 0, .int (-1)]))]) (C := RX11) (T := TX11) (N := 18) (v := .ref q_5) hx hb hts inlX11 tyX11 tyX11_ok nmX11 hown hK hP hD hS 0 rfl rfl 2 (by decide) w_2_125 rfl hin rfl rfl rfl (Nat.le_of_ble_eq_true rfl) rfl dX11_init_43 (fun H locs hP hD hS => ?_)
  refine lv_aload_n hx hb dX11_init_46 rfl (lv_at hl 0 rfl) ?_
  refine sk_new (ci := 3) (fs := [.null, .null, .null]) (C := RX3) (T := TX3) (N := 3) (k1 := 6) (n1 := 1646) hx hb hts inlX3 tyX3 tyX3_ok hown w_1_88 w_1_89 w_1_5 hK hP hD hS hA rfl (fun j hj => by rcases (show j = 0 ∨ j = 1 ∨ j = 2 by omega) with rfl | rfl | rfl <;> rfl) (Nat.le_of_ble_eq_true rfl) (Nat.le_of_ble_eq_true rfl) (Nat.le_of_ble_eq_true rfl) (Nat.le_of_ble_eq_true rfl) dX11_init_47 (fun q_6 H hP hD hS => ?_)
  have hP : va_P D vwCl [(x0, .inr (11, [.ref q_1, .ref q_3, .ref q_5, .null, .null, .null, .null, .null, .null, .null, .null, .null, .null, .null, .null, .int 0, .null, .long 0])), (q_1, .inr (10, [.ref k1_2, .int 0])), (k1_2, .inl (cI, 1600, .inl (fun _ => 0))), (q_3, .inr (10, [.ref k1_4, .int 0])), (k1_4, .inl (cI, 31, .inl (fun _ => 0))), (q_5, .inr (6, [.ref q_1, .int 0, .int 0, .int 0, .int (-1), .int 0, .int 0, .int (-1)])), (q_6, .inr (3, [.null, .null, .null]))] H := hP
  have hD : va_D A [(x0, .inr (11, [.ref q_1, .ref q_3, .ref q_5, .null, .null, .null, .null, .null, .null, .null, .null, .null, .null, .null, .null, .int 0, .null, .long 0])), (q_1, .inr (10, [.ref k1_2, .int 0])), (k1_2, .inl (cI, 1600, .inl (fun _ => 0))), (q_3, .inr (10, [.ref k1_4, .int 0])), (k1_4, .inl (cI, 31, .inl (fun _ => 0))), (q_5, .inr (6, [.ref q_1, .int 0, .int 0, .int 0, .int (-1), .int 0, .int 0, .int (-1)])), (q_6, .inr (3, [.null, .null, .null]))] := hD
  refine lv_dup hx hb dX11_init_50 rfl ?_
  refine lv_aload_n hx hb dX11_init_51 rfl (lv_at hl 0 rfl) ?_
  refine sk_get (v := .ref q_5) (C := RX11) (T := TX11) (N := 18) hx hb hts inlX11 hown hK hP 0 rfl rfl 2 (by decide) w_2_125 rfl dX11_init_52 ?_
  refine sk_Iv (n := 1) (rest := [.ref q_6, .ref x0]) (wr := [(x0, .inr (11, [.ref q_1, .ref q_3, .ref q_5, .null, .null, .null, .null, .null, .null, .null, .null, .null, .null, .null, .null, .int 0, .null, .long 0])), (q_1, .inr (10, [.ref k1_2, .int 0])), (k1_2, .inl (cI, 1600, .inl (fun _ => 0))), (q_3, .inr (10, [.ref k1_4, .int 0])), (k1_4, .inl (cI, 31, .inl (fun _ => 0))), (q_5, .inr (6, [.ref q_1, .int 0, .int 0, .int 0, .int (-1), .int 0, .int 0, .int (-1)]))]) ⟨hx, hb, hml, hown, hts⟩ hl.1 (c_LockText_init l D cI cJ cC cZ cS q_6 q_5) w_1_90 w_1_91 w_1_5 w_1_92 rfl (by decide +kernel) ⟨⟨(Nat.le_of_ble_eq_true rfl), (Nat.le_of_ble_eq_true rfl)⟩, (Nat.le_of_ble_eq_true rfl), (Nat.le_of_ble_eq_true rfl)⟩ hK hP hD hS hA [6] [0, 1, 2, 3, 4, 5] rfl rfl (by decide) (by decide) (by decide) rfl rfl (Nat.le_of_ble_eq_true rfl) dX11_init_55 (fun u H locs hw hP hD hS => ?_)
  obtain ⟨k1_7, k2_8, rfl⟩ := hw
  have hP : va_P D vwCl [(x0, .inr (11, [.ref q_1, .ref q_3, .ref q_5, .null, .null, .null, .null, .null, .null, .null, .null, .null, .null, .null, .null, .int 0, .null, .long 0])), (q_1, .inr (10, [.ref k1_2, .int 0])), (k1_2, .inl (cI, 1600, .inl (fun _ => 0))), (q_3, .inr (10, [.ref k1_4, .int 0])), (k1_4, .inl (cI, 31, .inl (fun _ => 0))), (q_5, .inr (6, [.ref q_1, .int 0, .int 0, .int 0, .int (-1), .int 0, .int 0, .int (-1)])), (q_6, .inr (3, [.ref q_5, .ref k1_7, .ref k2_8]))] H := hP
  have hD : va_D A [(x0, .inr (11, [.ref q_1, .ref q_3, .ref q_5, .null, .null, .null, .null, .null, .null, .null, .null, .null, .null, .null, .null, .int 0, .null, .long 0])), (q_1, .inr (10, [.ref k1_2, .int 0])), (k1_2, .inl (cI, 1600, .inl (fun _ => 0))), (q_3, .inr (10, [.ref k1_4, .int 0])), (k1_4, .inl (cI, 31, .inl (fun _ => 0))), (q_5, .inr (6, [.ref q_1, .int 0, .int 0, .int 0, .int (-1), .int 0, .int 0, .int (-1)])), (q_6, .inr (3, [.ref q_5, .ref k1_7, .ref k2_8]))] := hD
  refine W.widen (k := 8) (n := 1650) (Nat.le_of_ble_eq_true rfl) (Nat.le_of_ble_eq_true rfl) ?_
  refine sk_putF (ws' := [(x0, .inr (11, [.ref q_1, .ref q_3, .ref q_5, .ref q_6, .null, .null, .null, .null, .null, .null, .null, .null, .null, .null, .null, .int 0, .null, .long 0])), (q_1, .inr (10, [.ref k1_2, .int 0])), (k1_2, .inl (cI, 1600, .inl (fun _ => 0))), (q_3, .inr (10, [.ref k1_4, .int 0])), (k1_4, .inl (cI, 31, .inl (fun _ => 0))), (q_5, .inr (6, [.ref q_1, .int 0, .int 0, .int 0, .int (-1), .int 0, .int 0, .int (-1)])), (q_6, .inr (3, [.ref q_5, .ref k1_7, .ref k2_8]))]) (C := RX11) (T := TX11) (N := 18) (v := .ref q_6) hx hb hts inlX11 tyX11 tyX11_ok nmX11 hown hK hP hD hS 0 rfl rfl 3 (by decide) w_2_126 rfl hin rfl rfl rfl (Nat.le_of_ble_eq_true rfl) rfl dX11_init_58 (fun H locs hP hD hS => ?_)
  refine lv_aload_n hx hb dX11_init_61 rfl (lv_at hl 0 rfl) ?_
  refine sk_new (ci := 5) (fs := [.null, .null, .null, .int 0]) (C := RX5) (T := TX5) (N := 4) (k1 := 9) (n1 := 1654) hx hb hts inlX5 tyX5 tyX5_ok hown w_1_117 w_1_118 w_1_7 hK hP hD hS hA rfl (fun j hj => by rcases (show j = 0 ∨ j = 1 ∨ j = 2 ∨ j = 3 by omega) with rfl | rfl | rfl | rfl <;> rfl) (Nat.le_of_ble_eq_true rfl) (Nat.le_of_ble_eq_true rfl) (Nat.le_of_ble_eq_true rfl) (Nat.le_of_ble_eq_true rfl) dX11_init_62 (fun q_9 H hP hD hS => ?_)
  have hP : va_P D vwCl [(x0, .inr (11, [.ref q_1, .ref q_3, .ref q_5, .ref q_6, .null, .null, .null, .null, .null, .null, .null, .null, .null, .null, .null, .int 0, .null, .long 0])), (q_1, .inr (10, [.ref k1_2, .int 0])), (k1_2, .inl (cI, 1600, .inl (fun _ => 0))), (q_3, .inr (10, [.ref k1_4, .int 0])), (k1_4, .inl (cI, 31, .inl (fun _ => 0))), (q_5, .inr (6, [.ref q_1, .int 0, .int 0, .int 0, .int (-1), .int 0, .int 0, .int (-1)])), (q_6, .inr (3, [.ref q_5, .ref k1_7, .ref k2_8])), (q_9, .inr (5, [.null, .null, .null, .int 0]))] H := hP
  have hD : va_D A [(x0, .inr (11, [.ref q_1, .ref q_3, .ref q_5, .ref q_6, .null, .null, .null, .null, .null, .null, .null, .null, .null, .null, .null, .int 0, .null, .long 0])), (q_1, .inr (10, [.ref k1_2, .int 0])), (k1_2, .inl (cI, 1600, .inl (fun _ => 0))), (q_3, .inr (10, [.ref k1_4, .int 0])), (k1_4, .inl (cI, 31, .inl (fun _ => 0))), (q_5, .inr (6, [.ref q_1, .int 0, .int 0, .int 0, .int (-1), .int 0, .int 0, .int (-1)])), (q_6, .inr (3, [.ref q_5, .ref k1_7, .ref k2_8])), (q_9, .inr (5, [.null, .null, .null, .int 0]))] := hD
  refine lv_dup hx hb dX11_init_65 rfl ?_
  refine lv_aload_n hx hb dX11_init_66 rfl (lv_at hl 0 rfl) ?_
  refine sk_get (v := .ref q_5) (C := RX11) (T := TX11) (N := 18) hx hb hts inlX11 hown hK hP 0 rfl rfl 2 (by decide) w_2_125 rfl dX11_init_67 ?_
  refine sk_Iv (n := 1) (rest := [.ref q_9, .ref x0]) (wr := [(x0, .inr (11, [.ref q_1, .ref q_3, .ref q_5, .ref q_6, .null, .null, .null, .null, .null, .null, .null, .null, .null, .null, .null, .int 0, .null, .long 0])), (q_1, .inr (10, [.ref k1_2, .int 0])), (k1_2, .inl (cI, 1600, .inl (fun _ => 0))), (q_3, .inr (10, [.ref k1_4, .int 0])), (k1_4, .inl (cI, 31, .inl (fun _ => 0))), (q_5, .inr (6, [.ref q_1, .int 0, .int 0, .int 0, .int (-1), .int 0, .int 0, .int (-1)])), (q_6, .inr (3, [.ref q_5, .ref k1_7, .ref k2_8]))]) ⟨hx, hb, hml, hown, hts⟩ hl.1 (c_Question_init l D cI cJ cC cZ cS q_9 q_5) w_1_119 w_1_120 w_1_7 w_1_121 rfl (by decide +kernel) ⟨⟨(Nat.le_of_ble_eq_true rfl), (Nat.le_of_ble_eq_true rfl)⟩, (Nat.le_of_ble_eq_true rfl), (Nat.le_of_ble_eq_true rfl)⟩ hK hP hD hS hA [7] [0, 1, 2, 3, 4, 5, 6] rfl rfl (by decide) (by decide) (by decide) rfl rfl (Nat.le_of_ble_eq_true rfl) dX11_init_70 (fun u H locs hw hP hD hS => ?_)
  obtain rfl := hw
  have hP : va_P D vwCl [(x0, .inr (11, [.ref q_1, .ref q_3, .ref q_5, .ref q_6, .null, .null, .null, .null, .null, .null, .null, .null, .null, .null, .null, .int 0, .null, .long 0])), (q_1, .inr (10, [.ref k1_2, .int 0])), (k1_2, .inl (cI, 1600, .inl (fun _ => 0))), (q_3, .inr (10, [.ref k1_4, .int 0])), (k1_4, .inl (cI, 31, .inl (fun _ => 0))), (q_5, .inr (6, [.ref q_1, .int 0, .int 0, .int 0, .int (-1), .int 0, .int 0, .int (-1)])), (q_6, .inr (3, [.ref q_5, .ref k1_7, .ref k2_8]))] H := hP
  have hD : va_D A [(x0, .inr (11, [.ref q_1, .ref q_3, .ref q_5, .ref q_6, .null, .null, .null, .null, .null, .null, .null, .null, .null, .null, .null, .int 0, .null, .long 0])), (q_1, .inr (10, [.ref k1_2, .int 0])), (k1_2, .inl (cI, 1600, .inl (fun _ => 0))), (q_3, .inr (10, [.ref k1_4, .int 0])), (k1_4, .inl (cI, 31, .inl (fun _ => 0))), (q_5, .inr (6, [.ref q_1, .int 0, .int 0, .int 0, .int (-1), .int 0, .int 0, .int (-1)])), (q_6, .inr (3, [.ref q_5, .ref k1_7, .ref k2_8]))] := hD
  refine W.widen (k := 15) (n := 3345) (Nat.le_of_ble_eq_true rfl) (Nat.le_of_ble_eq_true rfl) ?_
  refine sk_putF (ws' := [(x0, .inr (11, [.ref q_1, .ref q_3, .ref q_5, .ref q_6, .ref q_9, .null, .null, .null, .null, .null, .null, .null, .null, .null, .null, .int 0, .null, .long 0])), (q_1, .inr (10, [.ref k1_2, .int 0])), (k1_2, .inl (cI, 1600, .inl (fun _ => 0))), (q_3, .inr (10, [.ref k1_4, .int 0])), (k1_4, .inl (cI, 31, .inl (fun _ => 0))), (q_5, .inr (6, [.ref q_1, .int 0, .int 0, .int 0, .int (-1), .int 0, .int 0, .int (-1)])), (q_6, .inr (3, [.ref q_5, .ref k1_7, .ref k2_8]))]) (C := RX11) (T := TX11) (N := 18) (v := .ref q_9) hx hb hts inlX11 tyX11 tyX11_ok nmX11 hown hK hP hD hS 0 rfl rfl 4 (by decide) w_2_127 rfl hin rfl rfl rfl (Nat.le_of_ble_eq_true rfl) rfl dX11_init_73 (fun H locs hP hD hS => ?_)
  refine lv_aload_n hx hb dX11_init_76 rfl (lv_at hl 0 rfl) ?_
  refine sk_new (ci := 2) (fs := [.null, .null, .null, .null, .null, .int 0, .int 0, .int 0, .int 0, .int 0]) (C := RX2) (T := TX2) (N := 10) (k1 := 16) (n1 := 3355) hx hb hts inlX2 tyX2 tyX2_ok hown w_1_167 w_1_168 w_1_9 hK hP hD hS hA rfl (fun j hj => by rcases (show j = 0 ∨ j = 1 ∨ j = 2 ∨ j = 3 ∨ j = 4 ∨ j = 5 ∨ j = 6 ∨ j = 7 ∨ j = 8 ∨ j = 9 by omega) with rfl | rfl | rfl | rfl | rfl | rfl | rfl | rfl | rfl | rfl <;> rfl) (Nat.le_of_ble_eq_true rfl) (Nat.le_of_ble_eq_true rfl) (Nat.le_of_ble_eq_true rfl) (Nat.le_of_ble_eq_true rfl) dX11_init_77 (fun q_10 H hP hD hS => ?_)
  have hP : va_P D vwCl [(x0, .inr (11, [.ref q_1, .ref q_3, .ref q_5, .ref q_6, .ref q_9, .null, .null, .null, .null, .null, .null, .null, .null, .null, .null, .int 0, .null, .long 0])), (q_1, .inr (10, [.ref k1_2, .int 0])), (k1_2, .inl (cI, 1600, .inl (fun _ => 0))), (q_3, .inr (10, [.ref k1_4, .int 0])), (k1_4, .inl (cI, 31, .inl (fun _ => 0))), (q_5, .inr (6, [.ref q_1, .int 0, .int 0, .int 0, .int (-1), .int 0, .int 0, .int (-1)])), (q_6, .inr (3, [.ref q_5, .ref k1_7, .ref k2_8])), (q_10, .inr (2, [.null, .null, .null, .null, .null, .int 0, .int 0, .int 0, .int 0, .int 0]))] H := hP
  have hD : va_D A [(x0, .inr (11, [.ref q_1, .ref q_3, .ref q_5, .ref q_6, .ref q_9, .null, .null, .null, .null, .null, .null, .null, .null, .null, .null, .int 0, .null, .long 0])), (q_1, .inr (10, [.ref k1_2, .int 0])), (k1_2, .inl (cI, 1600, .inl (fun _ => 0))), (q_3, .inr (10, [.ref k1_4, .int 0])), (k1_4, .inl (cI, 31, .inl (fun _ => 0))), (q_5, .inr (6, [.ref q_1, .int 0, .int 0, .int 0, .int (-1), .int 0, .int 0, .int (-1)])), (q_6, .inr (3, [.ref q_5, .ref k1_7, .ref k2_8])), (q_10, .inr (2, [.null, .null, .null, .null, .null, .int 0, .int 0, .int 0, .int 0, .int 0]))] := hD
  refine lv_dup hx hb dX11_init_80 rfl ?_
  refine sk_INv (n := 0) (rest := [.ref q_10, .ref x0]) (wr := [(x0, .inr (11, [.ref q_1, .ref q_3, .ref q_5, .ref q_6, .ref q_9, .null, .null, .null, .null, .null, .null, .null, .null, .null, .null, .int 0, .null, .long 0])), (q_1, .inr (10, [.ref k1_2, .int 0])), (k1_2, .inl (cI, 1600, .inl (fun _ => 0))), (q_3, .inr (10, [.ref k1_4, .int 0])), (k1_4, .inl (cI, 31, .inl (fun _ => 0))), (q_5, .inr (6, [.ref q_1, .int 0, .int 0, .int 0, .int (-1), .int 0, .int 0, .int (-1)])), (q_6, .inr (3, [.ref q_5, .ref k1_7, .ref k2_8]))]) ⟨hx, hb, hml, hown, hts⟩ hl.1 (c_Lock_init l D cI cJ cC cZ cS q_10) hK.2.2.1 w_1_170 w_1_9 w_1_171 rfl (by decide +kernel) ⟨⟨(Nat.le_of_ble_eq_true rfl), (Nat.le_of_ble_eq_true rfl)⟩, (Nat.le_of_ble_eq_true rfl), (Nat.le_of_ble_eq_true rfl)⟩ hK hP hD hS hA [7] [0, 1, 2, 3, 4, 5, 6] rfl rfl (by decide) (by decide) (by decide) rfl rfl (Nat.le_of_ble_eq_true rfl) dX11_init_81 (fun u H locs hw hP hD hS => ?_)
  obtain ⟨k1_11, k2_12, k3_13, k4_14, k5_15, k6_16, k7_17, k8_18, k9_19, rfl⟩ := hw
  have hP : va_P D vwCl [(x0, .inr (11, [.ref q_1, .ref q_3, .ref q_5, .ref q_6, .ref q_9, .null, .null, .null, .null, .null, .null, .null, .null, .null, .null, .int 0, .null, .long 0])), (q_1, .inr (10, [.ref k1_2, .int 0])), (k1_2, .inl (cI, 1600, .inl (fun _ => 0))), (q_3, .inr (10, [.ref k1_4, .int 0])), (k1_4, .inl (cI, 31, .inl (fun _ => 0))), (q_5, .inr (6, [.ref q_1, .int 0, .int 0, .int 0, .int (-1), .int 0, .int 0, .int (-1)])), (q_6, .inr (3, [.ref q_5, .ref k1_7, .ref k2_8])), (q_10, .inr (2, [.ref k1_11, .ref k2_12, .ref k3_13, .ref k4_14, .ref k5_15, .int 0, .int 0, .int 0, .int 0, .int 0])), (k1_11, .inr (0, [.ref k6_16, .ref k7_17, .ref k8_18, .ref k9_19, .int 0, .int 0])), (k6_16, .inl (cI, 1600, .inl (fun _ => 0))), (k2_12, .inl (cI, 9, .inl (fun _ => 0))), (k3_13, .inl (cI, 9, .inl (fun _ => 0))), (k4_14, .inl (cI, 3, .inl (fun _ => 0))), (k5_15, .inl (cI, 3, .inl (fun _ => 0)))] H := hP
  have hD : va_D A [(x0, .inr (11, [.ref q_1, .ref q_3, .ref q_5, .ref q_6, .ref q_9, .null, .null, .null, .null, .null, .null, .null, .null, .null, .null, .int 0, .null, .long 0])), (q_1, .inr (10, [.ref k1_2, .int 0])), (k1_2, .inl (cI, 1600, .inl (fun _ => 0))), (q_3, .inr (10, [.ref k1_4, .int 0])), (k1_4, .inl (cI, 31, .inl (fun _ => 0))), (q_5, .inr (6, [.ref q_1, .int 0, .int 0, .int 0, .int (-1), .int 0, .int 0, .int (-1)])), (q_6, .inr (3, [.ref q_5, .ref k1_7, .ref k2_8])), (q_10, .inr (2, [.ref k1_11, .ref k2_12, .ref k3_13, .ref k4_14, .ref k5_15, .int 0, .int 0, .int 0, .int 0, .int 0])), (k1_11, .inr (0, [.ref k6_16, .ref k7_17, .ref k8_18, .ref k9_19, .int 0, .int 0])), (k6_16, .inl (cI, 1600, .inl (fun _ => 0))), (k2_12, .inl (cI, 9, .inl (fun _ => 0))), (k3_13, .inl (cI, 9, .inl (fun _ => 0))), (k4_14, .inl (cI, 3, .inl (fun _ => 0))), (k5_15, .inl (cI, 3, .inl (fun _ => 0)))] := hD
  refine W.widen (k := 25) (n := 5068) (Nat.le_of_ble_eq_true rfl) (Nat.le_of_ble_eq_true rfl) ?_
  refine sk_put (ws' := [(x0, .inr (11, [.ref q_1, .ref q_3, .ref q_5, .ref q_6, .ref q_9, .ref q_10, .null, .null, .null, .null, .null, .null, .null, .null, .null, .int 0, .null, .long 0])), (q_1, .inr (10, [.ref k1_2, .int 0])), (k1_2, .inl (cI, 1600, .inl (fun _ => 0))), (q_3, .inr (10, [.ref k1_4, .int 0])), (k1_4, .inl (cI, 31, .inl (fun _ => 0))), (q_5, .inr (6, [.ref q_1, .int 0, .int 0, .int 0, .int (-1), .int 0, .int 0, .int (-1)])), (q_6, .inr (3, [.ref q_5, .ref k1_7, .ref k2_8])), (q_10, .inr (2, [.ref k1_11, .ref k2_12, .ref k3_13, .ref k4_14, .ref k5_15, .int 0, .int 0, .int 0, .int 0, .int 0])), (k1_11, .inr (0, [.ref k6_16, .ref k7_17, .ref k8_18, .ref k9_19, .int 0, .int 0])), (k6_16, .inl (cI, 1600, .inl (fun _ => 0))), (k2_12, .inl (cI, 9, .inl (fun _ => 0))), (k3_13, .inl (cI, 9, .inl (fun _ => 0))), (k4_14, .inl (cI, 3, .inl (fun _ => 0))), (k5_15, .inl (cI, 3, .inl (fun _ => 0)))]) (C := RX11) (T := TX11) (N := 18) (v := .ref q_10) hx hb hts inlX11 tyX11 tyX11_ok nmX11 hown hK hP hD hS 0 rfl rfl 5 (by decide) w_2_128 rfl rfl rfl (Nat.le_of_ble_eq_true rfl) rfl dX11_init_84 (fun H locs hP hD hS => ?_)
  have hP := hP.sub (ws' := [(x0, .inr (11, [.ref q_1, .ref q_3, .ref q_5, .ref q_6, .ref q_9, .ref q_10, .null, .null, .null, .null, .null, .null, .null, .null, .null, .int 0, .null, .long 0])), (q_1, .inr (10, [.ref k1_2, .int 0])), (k1_2, .inl (cI, 1600, .inl (fun _ => 0))), (q_3, .inr (10, [.ref k1_4, .int 0])), (k1_4, .inl (cI, 31, .inl (fun _ => 0))), (q_5, .inr (6, [.ref q_1, .int 0, .int 0, .int 0, .int (-1), .int 0, .int 0, .int (-1)])), (q_6, .inr (3, [.ref q_5, .ref k1_7, .ref k2_8]))]) [0, 1, 2, 3, 4, 5, 6] rfl
  have hD := hD.sub (ws' := [(x0, .inr (11, [.ref q_1, .ref q_3, .ref q_5, .ref q_6, .ref q_9, .ref q_10, .null, .null, .null, .null, .null, .null, .null, .null, .null, .int 0, .null, .long 0])), (q_1, .inr (10, [.ref k1_2, .int 0])), (k1_2, .inl (cI, 1600, .inl (fun _ => 0))), (q_3, .inr (10, [.ref k1_4, .int 0])), (k1_4, .inl (cI, 31, .inl (fun _ => 0))), (q_5, .inr (6, [.ref q_1, .int 0, .int 0, .int 0, .int (-1), .int 0, .int 0, .int (-1)])), (q_6, .inr (3, [.ref q_5, .ref k1_7, .ref k2_8]))]) [0, 1, 2, 3, 4, 5, 6] (by decide) rfl
  refine lv_aload_n hx hb dX11_init_87 rfl (lv_at hl 0 rfl) ?_
  refine sk_new (ci := 2) (fs := [.null, .null, .null, .null, .null, .int 0, .int 0, .int 0, .int 0, .int 0]) (C := RX2) (T := TX2) (N := 10) (k1 := 26) (n1 := 5078) hx hb hts inlX2 tyX2 tyX2_ok hown w_1_167 w_1_168 w_1_9 hK hP hD hS hA rfl (fun j hj => by rcases (show j = 0 ∨ j = 1 ∨ j = 2 ∨ j = 3 ∨ j = 4 ∨ j = 5 ∨ j = 6 ∨ j = 7 ∨ j = 8 ∨ j = 9 by omega) with rfl | rfl | rfl | rfl | rfl | rfl | rfl | rfl | rfl | rfl <;> rfl) (Nat.le_of_ble_eq_true rfl) (Nat.le_of_ble_eq_true rfl) (Nat.le_of_ble_eq_true rfl) (Nat.le_of_ble_eq_true rfl) dX11_init_88 (fun q_20 H hP hD hS => ?_)
  have hP : va_P D vwCl [(x0, .inr (11, [.ref q_1, .ref q_3, .ref q_5, .ref q_6, .ref q_9, .ref q_10, .null, .null, .null, .null, .null, .null, .null, .null, .null, .int 0, .null, .long 0])), (q_1, .inr (10, [.ref k1_2, .int 0])), (k1_2, .inl (cI, 1600, .inl (fun _ => 0))), (q_3, .inr (10, [.ref k1_4, .int 0])), (k1_4, .inl (cI, 31, .inl (fun _ => 0))), (q_5, .inr (6, [.ref q_1, .int 0, .int 0, .int 0, .int (-1), .int 0, .int 0, .int (-1)])), (q_6, .inr (3, [.ref q_5, .ref k1_7, .ref k2_8])), (q_20, .inr (2, [.null, .null, .null, .null, .null, .int 0, .int 0, .int 0, .int 0, .int 0]))] H := hP
  have hD : va_D A [(x0, .inr (11, [.ref q_1, .ref q_3, .ref q_5, .ref q_6, .ref q_9, .ref q_10, .null, .null, .null, .null, .null, .null, .null, .null, .null, .int 0, .null, .long 0])), (q_1, .inr (10, [.ref k1_2, .int 0])), (k1_2, .inl (cI, 1600, .inl (fun _ => 0))), (q_3, .inr (10, [.ref k1_4, .int 0])), (k1_4, .inl (cI, 31, .inl (fun _ => 0))), (q_5, .inr (6, [.ref q_1, .int 0, .int 0, .int 0, .int (-1), .int 0, .int 0, .int (-1)])), (q_6, .inr (3, [.ref q_5, .ref k1_7, .ref k2_8])), (q_20, .inr (2, [.null, .null, .null, .null, .null, .int 0, .int 0, .int 0, .int 0, .int 0]))] := hD
  refine lv_dup hx hb dX11_init_91 rfl ?_
  refine sk_INv (n := 0) (rest := [.ref q_20, .ref x0]) (wr := [(x0, .inr (11, [.ref q_1, .ref q_3, .ref q_5, .ref q_6, .ref q_9, .ref q_10, .null, .null, .null, .null, .null, .null, .null, .null, .null, .int 0, .null, .long 0])), (q_1, .inr (10, [.ref k1_2, .int 0])), (k1_2, .inl (cI, 1600, .inl (fun _ => 0))), (q_3, .inr (10, [.ref k1_4, .int 0])), (k1_4, .inl (cI, 31, .inl (fun _ => 0))), (q_5, .inr (6, [.ref q_1, .int 0, .int 0, .int 0, .int (-1), .int 0, .int 0, .int (-1)])), (q_6, .inr (3, [.ref q_5, .ref k1_7, .ref k2_8]))]) ⟨hx, hb, hml, hown, hts⟩ hl.1 (c_Lock_init l D cI cJ cC cZ cS q_20) hK.2.2.1 w_1_170 w_1_9 w_1_171 rfl (by decide +kernel) ⟨⟨(Nat.le_of_ble_eq_true rfl), (Nat.le_of_ble_eq_true rfl)⟩, (Nat.le_of_ble_eq_true rfl), (Nat.le_of_ble_eq_true rfl)⟩ hK hP hD hS hA [7] [0, 1, 2, 3, 4, 5, 6] rfl rfl (by decide) (by decide) (by decide) rfl rfl (Nat.le_of_ble_eq_true rfl) dX11_init_92 (fun u H locs hw hP hD hS => ?_)
  obtain ⟨k1_21, k2_22, k3_23, k4_24, k5_25, k6_26, k7_27, k8_28, k9_29, rfl⟩ := hw
  have hP : va_P D vwCl [(x0, .inr (11, [.ref q_1, .ref q_3, .ref q_5, .ref q_6, .ref q_9, .ref q_10, .null, .null, .null, .null, .null, .null, .null, .null, .null, .int 0, .null, .long 0])), (q_1, .inr (10, [.ref k1_2, .int 0])), (k1_2, .inl (cI, 1600, .inl (fun _ => 0))), (q_3, .inr (10, [.ref k1_4, .int 0])), (k1_4, .inl (cI, 31, .inl (fun _ => 0))), (q_5, .inr (6, [.ref q_1, .int 0, .int 0, .int 0, .int (-1), .int 0, .int 0, .int (-1)])), (q_6, .inr (3, [.ref q_5, .ref k1_7, .ref k2_8])), (q_20, .inr (2, [.ref k1_21, .ref k2_22, .ref k3_23, .ref k4_24, .ref k5_25, .int 0, .int 0, .int 0, .int 0, .int 0])), (k1_21, .inr (0, [.ref k6_26, .ref k7_27, .ref k8_28, .ref k9_29, .int 0, .int 0])), (k6_26, .inl (cI, 1600, .inl (fun _ => 0))), (k2_22, .inl (cI, 9, .inl (fun _ => 0))), (k3_23, .inl (cI, 9, .inl (fun _ => 0))), (k4_24, .inl (cI, 3, .inl (fun _ => 0))), (k5_25, .inl (cI, 3, .inl (fun _ => 0)))] H := hP
  have hD : va_D A [(x0, .inr (11, [.ref q_1, .ref q_3, .ref q_5, .ref q_6, .ref q_9, .ref q_10, .null, .null, .null, .null, .null, .null, .null, .null, .null, .int 0, .null, .long 0])), (q_1, .inr (10, [.ref k1_2, .int 0])), (k1_2, .inl (cI, 1600, .inl (fun _ => 0))), (q_3, .inr (10, [.ref k1_4, .int 0])), (k1_4, .inl (cI, 31, .inl (fun _ => 0))), (q_5, .inr (6, [.ref q_1, .int 0, .int 0, .int 0, .int (-1), .int 0, .int 0, .int (-1)])), (q_6, .inr (3, [.ref q_5, .ref k1_7, .ref k2_8])), (q_20, .inr (2, [.ref k1_21, .ref k2_22, .ref k3_23, .ref k4_24, .ref k5_25, .int 0, .int 0, .int 0, .int 0, .int 0])), (k1_21, .inr (0, [.ref k6_26, .ref k7_27, .ref k8_28, .ref k9_29, .int 0, .int 0])), (k6_26, .inl (cI, 1600, .inl (fun _ => 0))), (k2_22, .inl (cI, 9, .inl (fun _ => 0))), (k3_23, .inl (cI, 9, .inl (fun _ => 0))), (k4_24, .inl (cI, 3, .inl (fun _ => 0))), (k5_25, .inl (cI, 3, .inl (fun _ => 0)))] := hD
  refine W.widen (k := 35) (n := 6791) (Nat.le_of_ble_eq_true rfl) (Nat.le_of_ble_eq_true rfl) ?_
  refine sk_put (ws' := [(x0, .inr (11, [.ref q_1, .ref q_3, .ref q_5, .ref q_6, .ref q_9, .ref q_10, .ref q_20, .null, .null, .null, .null, .null, .null, .null, .null, .int 0, .null, .long 0])), (q_1, .inr (10, [.ref k1_2, .int 0])), (k1_2, .inl (cI, 1600, .inl (fun _ => 0))), (q_3, .inr (10, [.ref k1_4, .int 0])), (k1_4, .inl (cI, 31, .inl (fun _ => 0))), (q_5, .inr (6, [.ref q_1, .int 0, .int 0, .int 0, .int (-1), .int 0, .int 0, .int (-1)])), (q_6, .inr (3, [.ref q_5, .ref k1_7, .ref k2_8])), (q_20, .inr (2, [.ref k1_21, .ref k2_22, .ref k3_23, .ref k4_24, .ref k5_25, .int 0, .int 0, .int 0, .int 0, .int 0])), (k1_21, .inr (0, [.ref k6_26, .ref k7_27, .ref k8_28, .ref k9_29, .int 0, .int 0])), (k6_26, .inl (cI, 1600, .inl (fun _ => 0))), (k2_22, .inl (cI, 9, .inl (fun _ => 0))), (k3_23, .inl (cI, 9, .inl (fun _ => 0))), (k4_24, .inl (cI, 3, .inl (fun _ => 0))), (k5_25, .inl (cI, 3, .inl (fun _ => 0)))]) (C := RX11) (T := TX11) (N := 18) (v := .ref q_20) hx hb hts inlX11 tyX11 tyX11_ok nmX11 hown hK hP hD hS 0 rfl rfl 6 (by decide) w_2_129 rfl rfl rfl (Nat.le_of_ble_eq_true rfl) rfl dX11_init_95 (fun H locs hP hD hS => ?_)
  refine lv_aload_n hx hb dX11_init_98 rfl (lv_at hl 0 rfl) ?_
  refine sk_new (ci := 7) (fs := [.null, .null, .int 0, .int 0, .int 0, .int 0, .int 0]) (C := RX7) (T := TX7) (N := 7) (k1 := 36) (n1 := 6798) hx hb hts inlX7 tyX7 tyX7_ok hown w_1_224 w_1_225 w_1_10 hK hP hD hS hA rfl (fun j hj => by rcases (show j = 0 ∨ j = 1 ∨ j = 2 ∨ j = 3 ∨ j = 4 ∨ j = 5 ∨ j = 6 by omega) with rfl | rfl | rfl | rfl | rfl | rfl | rfl <;> rfl) (Nat.le_of_ble_eq_true rfl) (Nat.le_of_ble_eq_true rfl) (Nat.le_of_ble_eq_true rfl) (Nat.le_of_ble_eq_true rfl) dX11_init_99 (fun q_30 H hP hD hS => ?_)
  have hP : va_P D vwCl [(x0, .inr (11, [.ref q_1, .ref q_3, .ref q_5, .ref q_6, .ref q_9, .ref q_10, .ref q_20, .null, .null, .null, .null, .null, .null, .null, .null, .int 0, .null, .long 0])), (q_1, .inr (10, [.ref k1_2, .int 0])), (k1_2, .inl (cI, 1600, .inl (fun _ => 0))), (q_3, .inr (10, [.ref k1_4, .int 0])), (k1_4, .inl (cI, 31, .inl (fun _ => 0))), (q_5, .inr (6, [.ref q_1, .int 0, .int 0, .int 0, .int (-1), .int 0, .int 0, .int (-1)])), (q_6, .inr (3, [.ref q_5, .ref k1_7, .ref k2_8])), (q_20, .inr (2, [.ref k1_21, .ref k2_22, .ref k3_23, .ref k4_24, .ref k5_25, .int 0, .int 0, .int 0, .int 0, .int 0])), (k1_21, .inr (0, [.ref k6_26, .ref k7_27, .ref k8_28, .ref k9_29, .int 0, .int 0])), (k6_26, .inl (cI, 1600, .inl (fun _ => 0))), (k2_22, .inl (cI, 9, .inl (fun _ => 0))), (k3_23, .inl (cI, 9, .inl (fun _ => 0))), (k4_24, .inl (cI, 3, .inl (fun _ => 0))), (k5_25, .inl (cI, 3, .inl (fun _ => 0))), (q_30, .inr (7, [.null, .null, .int 0, .int 0, .int 0, .int 0, .int 0]))] H := hP
  have hD : va_D A [(x0, .inr (11, [.ref q_1, .ref q_3, .ref q_5, .ref q_6, .ref q_9, .ref q_10, .ref q_20, .null, .null, .null, .null, .null, .null, .null, .null, .int 0, .null, .long 0])), (q_1, .inr (10, [.ref k1_2, .int 0])), (k1_2, .inl (cI, 1600, .inl (fun _ => 0))), (q_3, .inr (10, [.ref k1_4, .int 0])), (k1_4, .inl (cI, 31, .inl (fun _ => 0))), (q_5, .inr (6, [.ref q_1, .int 0, .int 0, .int 0, .int (-1), .int 0, .int 0, .int (-1)])), (q_6, .inr (3, [.ref q_5, .ref k1_7, .ref k2_8])), (q_20, .inr (2, [.ref k1_21, .ref k2_22, .ref k3_23, .ref k4_24, .ref k5_25, .int 0, .int 0, .int 0, .int 0, .int 0])), (k1_21, .inr (0, [.ref k6_26, .ref k7_27, .ref k8_28, .ref k9_29, .int 0, .int 0])), (k6_26, .inl (cI, 1600, .inl (fun _ => 0))), (k2_22, .inl (cI, 9, .inl (fun _ => 0))), (k3_23, .inl (cI, 9, .inl (fun _ => 0))), (k4_24, .inl (cI, 3, .inl (fun _ => 0))), (k5_25, .inl (cI, 3, .inl (fun _ => 0))), (q_30, .inr (7, [.null, .null, .int 0, .int 0, .int 0, .int 0, .int 0]))] := hD
  refine lv_dup hx hb dX11_init_102 rfl ?_
  refine sk_INv (n := 0) (rest := [.ref q_30, .ref x0]) (wr := [(x0, .inr (11, [.ref q_1, .ref q_3, .ref q_5, .ref q_6, .ref q_9, .ref q_10, .ref q_20, .null, .null, .null, .null, .null, .null, .null, .null, .int 0, .null, .long 0])), (q_1, .inr (10, [.ref k1_2, .int 0])), (k1_2, .inl (cI, 1600, .inl (fun _ => 0))), (q_3, .inr (10, [.ref k1_4, .int 0])), (k1_4, .inl (cI, 31, .inl (fun _ => 0))), (q_5, .inr (6, [.ref q_1, .int 0, .int 0, .int 0, .int (-1), .int 0, .int 0, .int (-1)])), (q_6, .inr (3, [.ref q_5, .ref k1_7, .ref k2_8])), (q_20, .inr (2, [.ref k1_21, .ref k2_22, .ref k3_23, .ref k4_24, .ref k5_25, .int 0, .int 0, .int 0, .int 0, .int 0])), (k1_21, .inr (0, [.ref k6_26, .ref k7_27, .ref k8_28, .ref k9_29, .int 0, .int 0])), (k6_26, .inl (cI, 1600, .inl (fun _ => 0))), (k2_22, .inl (cI, 9, .inl (fun _ => 0))), (k3_23, .inl (cI, 9, .inl (fun _ => 0))), (k4_24, .inl (cI, 3, .inl (fun _ => 0))), (k5_25, .inl (cI, 3, .inl (fun _ => 0)))]) ⟨hx, hb, hml, hown, hts⟩ hl.1 (c_State_init l D cI cJ cC cZ cS q_30) hK.2.2.2.1 w_1_227 w_1_10 w_1_228 rfl (by decide +kernel) ⟨⟨(Nat.le_of_ble_eq_true rfl), (Nat.le_of_ble_eq_true rfl)⟩, (Nat.le_of_ble_eq_true rfl), (Nat.le_of_ble_eq_true rfl)⟩ hK hP hD hS hA [14] [0, 1, 2, 3, 4, 5, 6, 7, 8, 9, 10, 11, 12, 13] rfl rfl (by decide) (by decide) (by decide) rfl rfl (Nat.le_of_ble_eq_true rfl) dX11_init_103 (fun u H locs hw hP hD hS => ?_)
  obtain ⟨k1_31, k2_32, rfl⟩ := hw
  have hP : va_P D vwCl [(x0, .inr (11, [.ref q_1, .ref q_3, .ref q_5, .ref q_6, .ref q_9, .ref q_10, .ref q_20, .null, .null, .null, .null, .null, .null, .null, .null, .int 0, .null, .long 0])), (q_1, .inr (10, [.ref k1_2, .int 0])), (k1_2, .inl (cI, 1600, .inl (fun _ => 0))), (q_3, .inr (10, [.ref k1_4, .int 0])), (k1_4, .inl (cI, 31, .inl (fun _ => 0))), (q_5, .inr (6, [.ref q_1, .int 0, .int 0, .int 0, .int (-1), .int 0, .int 0, .int (-1)])), (q_6, .inr (3, [.ref q_5, .ref k1_7, .ref k2_8])), (q_20, .inr (2, [.ref k1_21, .ref k2_22, .ref k3_23, .ref k4_24, .ref k5_25, .int 0, .int 0, .int 0, .int 0, .int 0])), (k1_21, .inr (0, [.ref k6_26, .ref k7_27, .ref k8_28, .ref k9_29, .int 0, .int 0])), (k6_26, .inl (cI, 1600, .inl (fun _ => 0))), (k2_22, .inl (cI, 9, .inl (fun _ => 0))), (k3_23, .inl (cI, 9, .inl (fun _ => 0))), (k4_24, .inl (cI, 3, .inl (fun _ => 0))), (k5_25, .inl (cI, 3, .inl (fun _ => 0))), (q_30, .inr (7, [.ref k1_31, .ref k2_32, .int 0, .int 0, .int 0, .int 0, .int 0]))] H := hP
  have hD : va_D A [(x0, .inr (11, [.ref q_1, .ref q_3, .ref q_5, .ref q_6, .ref q_9, .ref q_10, .ref q_20, .null, .null, .null, .null, .null, .null, .null, .null, .int 0, .null, .long 0])), (q_1, .inr (10, [.ref k1_2, .int 0])), (k1_2, .inl (cI, 1600, .inl (fun _ => 0))), (q_3, .inr (10, [.ref k1_4, .int 0])), (k1_4, .inl (cI, 31, .inl (fun _ => 0))), (q_5, .inr (6, [.ref q_1, .int 0, .int 0, .int 0, .int (-1), .int 0, .int 0, .int (-1)])), (q_6, .inr (3, [.ref q_5, .ref k1_7, .ref k2_8])), (q_20, .inr (2, [.ref k1_21, .ref k2_22, .ref k3_23, .ref k4_24, .ref k5_25, .int 0, .int 0, .int 0, .int 0, .int 0])), (k1_21, .inr (0, [.ref k6_26, .ref k7_27, .ref k8_28, .ref k9_29, .int 0, .int 0])), (k6_26, .inl (cI, 1600, .inl (fun _ => 0))), (k2_22, .inl (cI, 9, .inl (fun _ => 0))), (k3_23, .inl (cI, 9, .inl (fun _ => 0))), (k4_24, .inl (cI, 3, .inl (fun _ => 0))), (k5_25, .inl (cI, 3, .inl (fun _ => 0))), (q_30, .inr (7, [.ref k1_31, .ref k2_32, .int 0, .int 0, .int 0, .int 0, .int 0]))] := hD
  refine W.widen (k := 38) (n := 6816) (Nat.le_of_ble_eq_true rfl) (Nat.le_of_ble_eq_true rfl) ?_
  refine sk_putF (ws' := [(x0, .inr (11, [.ref q_1, .ref q_3, .ref q_5, .ref q_6, .ref q_9, .ref q_10, .ref q_20, .ref q_30, .null, .null, .null, .null, .null, .null, .null, .int 0, .null, .long 0])), (q_1, .inr (10, [.ref k1_2, .int 0])), (k1_2, .inl (cI, 1600, .inl (fun _ => 0))), (q_3, .inr (10, [.ref k1_4, .int 0])), (k1_4, .inl (cI, 31, .inl (fun _ => 0))), (q_5, .inr (6, [.ref q_1, .int 0, .int 0, .int 0, .int (-1), .int 0, .int 0, .int (-1)])), (q_6, .inr (3, [.ref q_5, .ref k1_7, .ref k2_8])), (q_20, .inr (2, [.ref k1_21, .ref k2_22, .ref k3_23, .ref k4_24, .ref k5_25, .int 0, .int 0, .int 0, .int 0, .int 0])), (k1_21, .inr (0, [.ref k6_26, .ref k7_27, .ref k8_28, .ref k9_29, .int 0, .int 0])), (k6_26, .inl (cI, 1600, .inl (fun _ => 0))), (k2_22, .inl (cI, 9, .inl (fun _ => 0))), (k3_23, .inl (cI, 9, .inl (fun _ => 0))), (k4_24, .inl (cI, 3, .inl (fun _ => 0))), (k5_25, .inl (cI, 3, .inl (fun _ => 0))), (q_30, .inr (7, [.ref k1_31, .ref k2_32, .int 0, .int 0, .int 0, .int 0, .int 0]))]) (C := RX11) (T := TX11) (N := 18) (v := .ref q_30) hx hb hts inlX11 tyX11 tyX11_ok nmX11 hown hK hP hD hS 0 rfl rfl 7 (by decide) w_2_130 rfl hin rfl rfl rfl (Nat.le_of_ble_eq_true rfl) rfl dX11_init_106 (fun H locs hP hD hS => ?_)
  refine lv_aload_n hx hb dX11_init_109 rfl (lv_at hl 0 rfl) ?_
  refine sk_new (ci := 7) (fs := [.null, .null, .int 0, .int 0, .int 0, .int 0, .int 0]) (C := RX7) (T := TX7) (N := 7) (k1 := 39) (n1 := 6823) hx hb hts inlX7 tyX7 tyX7_ok hown w_1_224 w_1_225 w_1_10 hK hP hD hS hA rfl (fun j hj => by rcases (show j = 0 ∨ j = 1 ∨ j = 2 ∨ j = 3 ∨ j = 4 ∨ j = 5 ∨ j = 6 by omega) with rfl | rfl | rfl | rfl | rfl | rfl | rfl <;> rfl) (Nat.le_of_ble_eq_true rfl) (Nat.le_of_ble_eq_true rfl) (Nat.le_of_ble_eq_true rfl) (Nat.le_of_ble_eq_true rfl) dX11_init_110 (fun q_33 H hP hD hS => ?_)
  have hP : va_P D vwCl [(x0, .inr (11, [.ref q_1, .ref q_3, .ref q_5, .ref q_6, .ref q_9, .ref q_10, .ref q_20, .ref q_30, .null, .null, .null, .null, .null, .null, .null, .int 0, .null, .long 0])), (q_1, .inr (10, [.ref k1_2, .int 0])), (k1_2, .inl (cI, 1600, .inl (fun _ => 0))), (q_3, .inr (10, [.ref k1_4, .int 0])), (k1_4, .inl (cI, 31, .inl (fun _ => 0))), (q_5, .inr (6, [.ref q_1, .int 0, .int 0, .int 0, .int (-1), .int 0, .int 0, .int (-1)])), (q_6, .inr (3, [.ref q_5, .ref k1_7, .ref k2_8])), (q_20, .inr (2, [.ref k1_21, .ref k2_22, .ref k3_23, .ref k4_24, .ref k5_25, .int 0, .int 0, .int 0, .int 0, .int 0])), (k1_21, .inr (0, [.ref k6_26, .ref k7_27, .ref k8_28, .ref k9_29, .int 0, .int 0])), (k6_26, .inl (cI, 1600, .inl (fun _ => 0))), (k2_22, .inl (cI, 9, .inl (fun _ => 0))), (k3_23, .inl (cI, 9, .inl (fun _ => 0))), (k4_24, .inl (cI, 3, .inl (fun _ => 0))), (k5_25, .inl (cI, 3, .inl (fun _ => 0))), (q_30, .inr (7, [.ref k1_31, .ref k2_32, .int 0, .int 0, .int 0, .int 0, .int 0])), (q_33, .inr (7, [.null, .null, .int 0, .int 0, .int 0, .int 0, .int 0]))] H := hP
  have hD : va_D A [(x0, .inr (11, [.ref q_1, .ref q_3, .ref q_5, .ref q_6, .ref q_9, .ref q_10, .ref q_20, .ref q_30, .null, .null, .null, .null, .null, .null, .null, .int 0, .null, .long 0])), (q_1, .inr (10, [.ref k1_2, .int 0])), (k1_2, .inl (cI, 1600, .inl (fun _ => 0))), (q_3, .inr (10, [.ref k1_4, .int 0])), (k1_4, .inl (cI, 31, .inl (fun _ => 0))), (q_5, .inr (6, [.ref q_1, .int 0, .int 0, .int 0, .int (-1), .int 0, .int 0, .int (-1)])), (q_6, .inr (3, [.ref q_5, .ref k1_7, .ref k2_8])), (q_20, .inr (2, [.ref k1_21, .ref k2_22, .ref k3_23, .ref k4_24, .ref k5_25, .int 0, .int 0, .int 0, .int 0, .int 0])), (k1_21, .inr (0, [.ref k6_26, .ref k7_27, .ref k8_28, .ref k9_29, .int 0, .int 0])), (k6_26, .inl (cI, 1600, .inl (fun _ => 0))), (k2_22, .inl (cI, 9, .inl (fun _ => 0))), (k3_23, .inl (cI, 9, .inl (fun _ => 0))), (k4_24, .inl (cI, 3, .inl (fun _ => 0))), (k5_25, .inl (cI, 3, .inl (fun _ => 0))), (q_30, .inr (7, [.ref k1_31, .ref k2_32, .int 0, .int 0, .int 0, .int 0, .int 0])), (q_33, .inr (7, [.null, .null, .int 0, .int 0, .int 0, .int 0, .int 0]))] := hD
  refine lv_dup hx hb dX11_init_113 rfl ?_
  refine sk_INv (n := 0) (rest := [.ref q_33, .ref x0]) (wr := [(x0, .inr (11, [.ref q_1, .ref q_3, .ref q_5, .ref q_6, .ref q_9, .ref q_10, .ref q_20, .ref q_30, .null, .null, .null, .null, .null, .null, .null, .int 0, .null, .long 0])), (q_1, .inr (10, [.ref k1_2, .int 0])), (k1_2, .inl (cI, 1600, .inl (fun _ => 0))), (q_3, .inr (10, [.ref k1_4, .int 0])), (k1_4, .inl (cI, 31, .inl (fun _ => 0))), (q_5, .inr (6, [.ref q_1, .int 0, .int 0, .int 0, .int (-1), .int 0, .int 0, .int (-1)])), (q_6, .inr (3, [.ref q_5, .ref k1_7, .ref k2_8])), (q_20, .inr (2, [.ref k1_21, .ref k2_22, .ref k3_23, .ref k4_24, .ref k5_25, .int 0, .int 0, .int 0, .int 0, .int 0])), (k1_21, .inr (0, [.ref k6_26, .ref k7_27, .ref k8_28, .ref k9_29, .int 0, .int 0])), (k6_26, .inl (cI, 1600, .inl (fun _ => 0))), (k2_22, .inl (cI, 9, .inl (fun _ => 0))), (k3_23, .inl (cI, 9, .inl (fun _ => 0))), (k4_24, .inl (cI, 3, .inl (fun _ => 0))), (k5_25, .inl (cI, 3, .inl (fun _ => 0))), (q_30, .inr (7, [.ref k1_31, .ref k2_32, .int 0, .int 0, .int 0, .int 0, .int 0]))]) ⟨hx, hb, hml, hown, hts⟩ hl.1 (c_State_init l D cI cJ cC cZ cS q_33) hK.2.2.2.1 w_1_227 w_1_10 w_1_228 rfl (by decide +kernel) ⟨⟨(Nat.le_of_ble_eq_true rfl), (Nat.le_of_ble_eq_true rfl)⟩, (Nat.le_of_ble_eq_true rfl), (Nat.le_of_ble_eq_true rfl)⟩ hK hP hD hS hA [15] [0, 1, 2, 3, 4, 5, 6, 7, 8, 9, 10, 11, 12, 13, 14] rfl rfl (by decide) (by decide) (by decide) rfl rfl (Nat.le_of_ble_eq_true rfl) dX11_init_114 (fun u H locs hw hP hD hS => ?_)
  obtain ⟨k1_34, k2_35, rfl⟩ := hw
  have hP : va_P D vwCl [(x0, .inr (11, [.ref q_1, .ref q_3, .ref q_5, .ref q_6, .ref q_9, .ref q_10, .ref q_20, .ref q_30, .null, .null, .null, .null, .null, .null, .null, .int 0, .null, .long 0])), (q_1, .inr (10, [.ref k1_2, .int 0])), (k1_2, .inl (cI, 1600, .inl (fun _ => 0))), (q_3, .inr (10, [.ref k1_4, .int 0])), (k1_4, .inl (cI, 31, .inl (fun _ => 0))), (q_5, .inr (6, [.ref q_1, .int 0, .int 0, .int 0, .int (-1), .int 0, .int 0, .int (-1)])), (q_6, .inr (3, [.ref q_5, .ref k1_7, .ref k2_8])), (q_20, .inr (2, [.ref k1_21, .ref k2_22, .ref k3_23, .ref k4_24, .ref k5_25, .int 0, .int 0, .int 0, .int 0, .int 0])), (k1_21, .inr (0, [.ref k6_26, .ref k7_27, .ref k8_28, .ref k9_29, .int 0, .int 0])), (k6_26, .inl (cI, 1600, .inl (fun _ => 0))), (k2_22, .inl (cI, 9, .inl (fun _ => 0))), (k3_23, .inl (cI, 9, .inl (fun _ => 0))), (k4_24, .inl (cI, 3, .inl (fun _ => 0))), (k5_25, .inl (cI, 3, .inl (fun _ => 0))), (q_30, .inr (7, [.ref k1_31, .ref k2_32, .int 0, .int 0, .int 0, .int 0, .int 0])), (q_33, .inr (7, [.ref k1_34, .ref k2_35, .int 0, .int 0, .int 0, .int 0, .int 0]))] H := hP
  have hD : va_D A [(x0, .inr (11, [.ref q_1, .ref q_3, .ref q_5, .ref q_6, .ref q_9, .ref q_10, .ref q_20, .ref q_30, .null, .null, .null, .null, .null, .null, .null, .int 0, .null, .long 0])), (q_1, .inr (10, [.ref k1_2, .int 0])), (k1_2, .inl (cI, 1600, .inl (fun _ => 0))), (q_3, .inr (10, [.ref k1_4, .int 0])), (k1_4, .inl (cI, 31, .inl (fun _ => 0))), (q_5, .inr (6, [.ref q_1, .int 0, .int 0, .int 0, .int (-1), .int 0, .int 0, .int (-1)])), (q_6, .inr (3, [.ref q_5, .ref k1_7, .ref k2_8])), (q_20, .inr (2, [.ref k1_21, .ref k2_22, .ref k3_23, .ref k4_24, .ref k5_25, .int 0, .int 0, .int 0, .int 0, .int 0])), (k1_21, .inr (0, [.ref k6_26, .ref k7_27, .ref k8_28, .ref k9_29, .int 0, .int 0])), (k6_26, .inl (cI, 1600, .inl (fun _ => 0))), (k2_22, .inl (cI, 9, .inl (fun _ => 0))), (k3_23, .inl (cI, 9, .inl (fun _ => 0))), (k4_24, .inl (cI, 3, .inl (fun _ => 0))), (k5_25, .inl (cI, 3, .inl (fun _ => 0))), (q_30, .inr (7, [.ref k1_31, .ref k2_32, .int 0, .int 0, .int 0, .int 0, .int 0])), (q_33, .inr (7, [.ref k1_34, .ref k2_35, .int 0, .int 0, .int 0, .int 0, .int 0]))] := hD
  refine W.widen (k := 41) (n := 6841) (Nat.le_of_ble_eq_true rfl) (Nat.le_of_ble_eq_true rfl) ?_
  refine sk_putF (ws' := [(x0, .inr (11, [.ref q_1, .ref q_3, .ref q_5, .ref q_6, .ref q_9, .ref q_10, .ref q_20, .ref q_30, .ref q_33, .null, .null, .null, .null, .null, .null, .int 0, .null, .long 0])), (q_1, .inr (10, [.ref k1_2, .int 0])), (k1_2, .inl (cI, 1600, .inl (fun _ => 0))), (q_3, .inr (10, [.ref k1_4, .int 0])), (k1_4, .inl (cI, 31, .inl (fun _ => 0))), (q_5, .inr (6, [.ref q_1, .int 0, .int 0, .int 0, .int (-1), .int 0, .int 0, .int (-1)])), (q_6, .inr (3, [.ref q_5, .ref k1_7, .ref k2_8])), (q_20, .inr (2, [.ref k1_21, .ref k2_22, .ref k3_23, .ref k4_24, .ref k5_25, .int 0, .int 0, .int 0, .int 0, .int 0])), (k1_21, .inr (0, [.ref k6_26, .ref k7_27, .ref k8_28, .ref k9_29, .int 0, .int 0])), (k6_26, .inl (cI, 1600, .inl (fun _ => 0))), (k2_22, .inl (cI, 9, .inl (fun _ => 0))), (k3_23, .inl (cI, 9, .inl (fun _ => 0))), (k4_24, .inl (cI, 3, .inl (fun _ => 0))), (k5_25, .inl (cI, 3, .inl (fun _ => 0))), (q_30, .inr (7, [.ref k1_31, .ref k2_32, .int 0, .int 0, .int 0, .int 0, .int 0])), (q_33, .inr (7, [.ref k1_34, .ref k2_35, .int 0, .int 0, .int 0, .int 0, .int 0]))]) (C := RX11) (T := TX11) (N := 18) (v := .ref q_33) hx hb hts inlX11 tyX11 tyX11_ok nmX11 hown hK hP hD hS 0 rfl rfl 8 (by decide) w_2_131 rfl hin rfl rfl rfl (Nat.le_of_ble_eq_true rfl) rfl dX11_init_117 (fun H locs hP hD hS => ?_)
  have hP := hP.sub (ws' := [(x0, .inr (11, [.ref q_1, .ref q_3, .ref q_5, .ref q_6, .ref q_9, .ref q_10, .ref q_20, .ref q_30, .ref q_33, .null, .null, .null, .null, .null, .null, .int 0, .null, .long 0])), (q_1, .inr (10, [.ref k1_2, .int 0])), (k1_2, .inl (cI, 1600, .inl (fun _ => 0))), (q_3, .inr (10, [.ref k1_4, .int 0])), (k1_4, .inl (cI, 31, .inl (fun _ => 0))), (q_5, .inr (6, [.ref q_1, .int 0, .int 0, .int 0, .int (-1), .int 0, .int 0, .int (-1)])), (q_6, .inr (3, [.ref q_5, .ref k1_7, .ref k2_8])), (q_20, .inr (2, [.ref k1_21, .ref k2_22, .ref k3_23, .ref k4_24, .ref k5_25, .int 0, .int 0, .int 0, .int 0, .int 0])), (k1_21, .inr (0, [.ref k6_26, .ref k7_27, .ref k8_28, .ref k9_29, .int 0, .int 0])), (k6_26, .inl (cI, 1600, .inl (fun _ => 0))), (k2_22, .inl (cI, 9, .inl (fun _ => 0))), (k3_23, .inl (cI, 9, .inl (fun _ => 0))), (k4_24, .inl (cI, 3, .inl (fun _ => 0))), (k5_25, .inl (cI, 3, .inl (fun _ => 0))), (q_30, .inr (7, [.ref k1_31, .ref k2_32, .int 0, .int 0, .int 0, .int 0, .int 0]))]) [0, 1, 2, 3, 4, 5, 6, 7, 8, 9, 10, 11, 12, 13, 14] rfl
  have hD := hD.sub (ws' := [(x0, .inr (11, [.ref q_1, .ref q_3, .ref q_5, .ref q_6, .ref q_9, .ref q_10, .ref q_20, .ref q_30, .ref q_33, .null, .null, .null, .null, .null, .null, .int 0, .null, .long 0])), (q_1, .inr (10, [.ref k1_2, .int 0])), (k1_2, .inl (cI, 1600, .inl (fun _ => 0))), (q_3, .inr (10, [.ref k1_4, .int 0])), (k1_4, .inl (cI, 31, .inl (fun _ => 0))), (q_5, .inr (6, [.ref q_1, .int 0, .int 0, .int 0, .int (-1), .int 0, .int 0, .int (-1)])), (q_6, .inr (3, [.ref q_5, .ref k1_7, .ref k2_8])), (q_20, .inr (2, [.ref k1_21, .ref k2_22, .ref k3_23, .ref k4_24, .ref k5_25, .int 0, .int 0, .int 0, .int 0, .int 0])), (k1_21, .inr (0, [.ref k6_26, .ref k7_27, .ref k8_28, .ref k9_29, .int 0, .int 0])), (k6_26, .inl (cI, 1600, .inl (fun _ => 0))), (k2_22, .inl (cI, 9, .inl (fun _ => 0))), (k3_23, .inl (cI, 9, .inl (fun _ => 0))), (k4_24, .inl (cI, 3, .inl (fun _ => 0))), (k5_25, .inl (cI, 3, .inl (fun _ => 0))), (q_30, .inr (7, [.ref k1_31, .ref k2_32, .int 0, .int 0, .int 0, .int 0, .int 0]))]) [0, 1, 2, 3, 4, 5, 6, 7, 8, 9, 10, 11, 12, 13, 14] (by decide) rfl
  refine lv_aload_n hx hb dX11_init_120 rfl (lv_at hl 0 rfl) ?_
  refine sk_new (ci := 4) (fs := [.null, .int 0, .null, .null, .null]) (C := RX4) (T := TX4) (N := 5) (k1 := 42) (n1 := 6846) hx hb hts inlX4 tyX4 tyX4_ok hown w_2_31 w_2_32 w_1_11 hK hP hD hS hA rfl (fun j hj => by rcases (show j = 0 ∨ j = 1 ∨ j = 2 ∨ j = 3 ∨ j = 4 by omega) with rfl | rfl | rfl | rfl | rfl <;> rfl) (Nat.le_of_ble_eq_true rfl) (Nat.le_of_ble_eq_true rfl) (Nat.le_of_ble_eq_true rfl) (Nat.le_of_ble_eq_true rfl) dX11_init_121 (fun q_36 H hP hD hS => ?_)
  have hP : va_P D vwCl [(x0, .inr (11, [.ref q_1, .ref q_3, .ref q_5, .ref q_6, .ref q_9, .ref q_10, .ref q_20, .ref q_30, .ref q_33, .null, .null, .null, .null, .null, .null, .int 0, .null, .long 0])), (q_1, .inr (10, [.ref k1_2, .int 0])), (k1_2, .inl (cI, 1600, .inl (fun _ => 0))), (q_3, .inr (10, [.ref k1_4, .int 0])), (k1_4, .inl (cI, 31, .inl (fun _ => 0))), (q_5, .inr (6, [.ref q_1, .int 0, .int 0, .int 0, .int (-1), .int 0, .int 0, .int (-1)])), (q_6, .inr (3, [.ref q_5, .ref k1_7, .ref k2_8])), (q_20, .inr (2, [.ref k1_21, .ref k2_22, .ref k3_23, .ref k4_24, .ref k5_25, .int 0, .int 0, .int 0, .int 0, .int 0])), (k1_21, .inr (0, [.ref k6_26, .ref k7_27, .ref k8_28, .ref k9_29, .int 0, .int 0])), (k6_26, .inl (cI, 1600, .inl (fun _ => 0))), (k2_22, .inl (cI, 9, .inl (fun _ => 0))), (k3_23, .inl (cI, 9, .inl (fun _ => 0))), (k4_24, .inl (cI, 3, .inl (fun _ => 0))), (k5_25, .inl (cI, 3, .inl (fun _ => 0))), (q_30, .inr (7, [.ref k1_31, .ref k2_32, .int 0, .int 0, .int 0, .int 0, .int 0])), (q_36, .inr (4, [.null, .int 0, .null, .null, .null]))] H := hP
  have hD : va_D A [(x0, .inr (11, [.ref q_1, .ref q_3, .ref q_5, .ref q_6, .ref q_9, .ref q_10, .ref q_20, .ref q_30, .ref q_33, .null, .null, .null, .null, .null, .null, .int 0, .null, .long 0])), (q_1, .inr (10, [.ref k1_2, .int 0])), (k1_2, .inl (cI, 1600, .inl (fun _ => 0))), (q_3, .inr (10, [.ref k1_4, .int 0])), (k1_4, .inl (cI, 31, .inl (fun _ => 0))), (q_5, .inr (6, [.ref q_1, .int 0, .int 0, .int 0, .int (-1), .int 0, .int 0, .int (-1)])), (q_6, .inr (3, [.ref q_5, .ref k1_7, .ref k2_8])), (q_20, .inr (2, [.ref k1_21, .ref k2_22, .ref k3_23, .ref k4_24, .ref k5_25, .int 0, .int 0, .int 0, .int 0, .int 0])), (k1_21, .inr (0, [.ref k6_26, .ref k7_27, .ref k8_28, .ref k9_29, .int 0, .int 0])), (k6_26, .inl (cI, 1600, .inl (fun _ => 0))), (k2_22, .inl (cI, 9, .inl (fun _ => 0))), (k3_23, .inl (cI, 9, .inl (fun _ => 0))), (k4_24, .inl (cI, 3, .inl (fun _ => 0))), (k5_25, .inl (cI, 3, .inl (fun _ => 0))), (q_30, .inr (7, [.ref k1_31, .ref k2_32, .int 0, .int 0, .int 0, .int 0, .int 0])), (q_36, .inr (4, [.null, .int 0, .null, .null, .null]))] := hD
  refine lv_dup hx hb dX11_init_124 rfl ?_
  refine sk_Iv (n := 0) (rest := [.ref q_36, .ref x0]) (wr := [(x0, .inr (11, [.ref q_1, .ref q_3, .ref q_5, .ref q_6, .ref q_9, .ref q_10, .ref q_20, .ref q_30, .ref q_33, .null, .null, .null, .null, .null, .null, .int 0, .null, .long 0])), (q_1, .inr (10, [.ref k1_2, .int 0])), (k1_2, .inl (cI, 1600, .inl (fun _ => 0))), (q_3, .inr (10, [.ref k1_4, .int 0])), (k1_4, .inl (cI, 31, .inl (fun _ => 0))), (q_5, .inr (6, [.ref q_1, .int 0, .int 0, .int 0, .int (-1), .int 0, .int 0, .int (-1)])), (q_6, .inr (3, [.ref q_5, .ref k1_7, .ref k2_8])), (q_20, .inr (2, [.ref k1_21, .ref k2_22, .ref k3_23, .ref k4_24, .ref k5_25, .int 0, .int 0, .int 0, .int 0, .int 0])), (k1_21, .inr (0, [.ref k6_26, .ref k7_27, .ref k8_28, .ref k9_29, .int 0, .int 0])), (k6_26, .inl (cI, 1600, .inl (fun _ => 0))), (k2_22, .inl (cI, 9, .inl (fun _ => 0))), (k3_23, .inl (cI, 9, .inl (fun _ => 0))), (k4_24, .inl (cI, 3, .inl (fun _ => 0))), (k5_25, .inl (cI, 3, .inl (fun _ => 0))), (q_30, .inr (7, [.ref k1_31, .ref k2_32, .int 0, .int 0, .int 0, .int 0, .int 0]))]) ⟨hx, hb, hml, hown, hts⟩ hl.1 (c_Past_init l D cI cJ cC cZ cS q_36) w_2_33 w_2_34 w_1_11 w_2_35 rfl (by decide +kernel) ⟨⟨(Nat.le_of_ble_eq_true rfl), (Nat.le_of_ble_eq_true rfl)⟩, (Nat.le_of_ble_eq_true rfl), (Nat.le_of_ble_eq_true rfl)⟩ hK hP hD hS hA [15] [0, 1, 2, 3, 4, 5, 6, 7, 8, 9, 10, 11, 12, 13, 14] rfl rfl (by decide) (by decide) (by decide) rfl rfl (Nat.le_of_ble_eq_true rfl) dX11_init_125 (fun u H locs hw hP hD hS => ?_)
  obtain ⟨k1_37, k2_38, k3_39, k4_40, rfl⟩ := hw
  have hP : va_P D vwCl [(x0, .inr (11, [.ref q_1, .ref q_3, .ref q_5, .ref q_6, .ref q_9, .ref q_10, .ref q_20, .ref q_30, .ref q_33, .null, .null, .null, .null, .null, .null, .int 0, .null, .long 0])), (q_1, .inr (10, [.ref k1_2, .int 0])), (k1_2, .inl (cI, 1600, .inl (fun _ => 0))), (q_3, .inr (10, [.ref k1_4, .int 0])), (k1_4, .inl (cI, 31, .inl (fun _ => 0))), (q_5, .inr (6, [.ref q_1, .int 0, .int 0, .int 0, .int (-1), .int 0, .int 0, .int (-1)])), (q_6, .inr (3, [.ref q_5, .ref k1_7, .ref k2_8])), (q_20, .inr (2, [.ref k1_21, .ref k2_22, .ref k3_23, .ref k4_24, .ref k5_25, .int 0, .int 0, .int 0, .int 0, .int 0])), (k1_21, .inr (0, [.ref k6_26, .ref k7_27, .ref k8_28, .ref k9_29, .int 0, .int 0])), (k6_26, .inl (cI, 1600, .inl (fun _ => 0))), (k2_22, .inl (cI, 9, .inl (fun _ => 0))), (k3_23, .inl (cI, 9, .inl (fun _ => 0))), (k4_24, .inl (cI, 3, .inl (fun _ => 0))), (k5_25, .inl (cI, 3, .inl (fun _ => 0))), (q_30, .inr (7, [.ref k1_31, .ref k2_32, .int 0, .int 0, .int 0, .int 0, .int 0])), (q_36, .inr (4, [.ref k1_37, .int 0, .ref k2_38, .ref k3_39, .ref k4_40]))] H := hP
  have hD : va_D A [(x0, .inr (11, [.ref q_1, .ref q_3, .ref q_5, .ref q_6, .ref q_9, .ref q_10, .ref q_20, .ref q_30, .ref q_33, .null, .null, .null, .null, .null, .null, .int 0, .null, .long 0])), (q_1, .inr (10, [.ref k1_2, .int 0])), (k1_2, .inl (cI, 1600, .inl (fun _ => 0))), (q_3, .inr (10, [.ref k1_4, .int 0])), (k1_4, .inl (cI, 31, .inl (fun _ => 0))), (q_5, .inr (6, [.ref q_1, .int 0, .int 0, .int 0, .int (-1), .int 0, .int 0, .int (-1)])), (q_6, .inr (3, [.ref q_5, .ref k1_7, .ref k2_8])), (q_20, .inr (2, [.ref k1_21, .ref k2_22, .ref k3_23, .ref k4_24, .ref k5_25, .int 0, .int 0, .int 0, .int 0, .int 0])), (k1_21, .inr (0, [.ref k6_26, .ref k7_27, .ref k8_28, .ref k9_29, .int 0, .int 0])), (k6_26, .inl (cI, 1600, .inl (fun _ => 0))), (k2_22, .inl (cI, 9, .inl (fun _ => 0))), (k3_23, .inl (cI, 9, .inl (fun _ => 0))), (k4_24, .inl (cI, 3, .inl (fun _ => 0))), (k5_25, .inl (cI, 3, .inl (fun _ => 0))), (q_30, .inr (7, [.ref k1_31, .ref k2_32, .int 0, .int 0, .int 0, .int 0, .int 0])), (q_36, .inr (4, [.ref k1_37, .int 0, .ref k2_38, .ref k3_39, .ref k4_40]))] := hD
  refine W.widen (k := 106) (n := 10366) (Nat.le_of_ble_eq_true rfl) (Nat.le_of_ble_eq_true rfl) ?_
  refine sk_putF (ws' := [(x0, .inr (11, [.ref q_1, .ref q_3, .ref q_5, .ref q_6, .ref q_9, .ref q_10, .ref q_20, .ref q_30, .ref q_33, .ref q_36, .null, .null, .null, .null, .null, .int 0, .null, .long 0])), (q_1, .inr (10, [.ref k1_2, .int 0])), (k1_2, .inl (cI, 1600, .inl (fun _ => 0))), (q_3, .inr (10, [.ref k1_4, .int 0])), (k1_4, .inl (cI, 31, .inl (fun _ => 0))), (q_5, .inr (6, [.ref q_1, .int 0, .int 0, .int 0, .int (-1), .int 0, .int 0, .int (-1)])), (q_6, .inr (3, [.ref q_5, .ref k1_7, .ref k2_8])), (q_20, .inr (2, [.ref k1_21, .ref k2_22, .ref k3_23, .ref k4_24, .ref k5_25, .int 0, .int 0, .int 0, .int 0, .int 0])), (k1_21, .inr (0, [.ref k6_26, .ref k7_27, .ref k8_28, .ref k9_29, .int 0, .int 0])), (k6_26, .inl (cI, 1600, .inl (fun _ => 0))), (k2_22, .inl (cI, 9, .inl (fun _ => 0))), (k3_23, .inl (cI, 9, .inl (fun _ => 0))), (k4_24, .inl (cI, 3, .inl (fun _ => 0))), (k5_25, .inl (cI, 3, .inl (fun _ => 0))), (q_30, .inr (7, [.ref k1_31, .ref k2_32, .int 0, .int 0, .int 0, .int 0, .int 0])), (q_36, .inr (4, [.ref k1_37, .int 0, .ref k2_38, .ref k3_39, .ref k4_40]))]) (C := RX11) (T := TX11) (N := 18) (v := .ref q_36) hx hb hts inlX11 tyX11 tyX11_ok nmX11 hown hK hP hD hS 0 rfl rfl 9 (by decide) w_2_132 rfl hin rfl rfl rfl (Nat.le_of_ble_eq_true rfl) rfl dX11_init_128 (fun H locs hP hD hS => ?_)
  refine lv_aload_n hx hb dX11_init_131 rfl (lv_at hl 0 rfl) ?_
  refine sk_new (ci := 9) (fs := [.null, .null, .null, .null, .null, .null]) (C := RX9) (T := TX9) (N := 6) (k1 := 107) (n1 := 10372) hx hb hts inlX9 tyX9 tyX9_ok hown w_2_57 w_2_58 w_1_12 hK hP hD hS hA rfl (fun j hj => by rcases (show j = 0 ∨ j = 1 ∨ j = 2 ∨ j = 3 ∨ j = 4 ∨ j = 5 by omega) with rfl | rfl | rfl | rfl | rfl | rfl <;> rfl) (Nat.le_of_ble_eq_true rfl) (Nat.le_of_ble_eq_true rfl) (Nat.le_of_ble_eq_true rfl) (Nat.le_of_ble_eq_true rfl) dX11_init_132 (fun q_41 H hP hD hS => ?_)
  have hP : va_P D vwCl [(x0, .inr (11, [.ref q_1, .ref q_3, .ref q_5, .ref q_6, .ref q_9, .ref q_10, .ref q_20, .ref q_30, .ref q_33, .ref q_36, .null, .null, .null, .null, .null, .int 0, .null, .long 0])), (q_1, .inr (10, [.ref k1_2, .int 0])), (k1_2, .inl (cI, 1600, .inl (fun _ => 0))), (q_3, .inr (10, [.ref k1_4, .int 0])), (k1_4, .inl (cI, 31, .inl (fun _ => 0))), (q_5, .inr (6, [.ref q_1, .int 0, .int 0, .int 0, .int (-1), .int 0, .int 0, .int (-1)])), (q_6, .inr (3, [.ref q_5, .ref k1_7, .ref k2_8])), (q_20, .inr (2, [.ref k1_21, .ref k2_22, .ref k3_23, .ref k4_24, .ref k5_25, .int 0, .int 0, .int 0, .int 0, .int 0])), (k1_21, .inr (0, [.ref k6_26, .ref k7_27, .ref k8_28, .ref k9_29, .int 0, .int 0])), (k6_26, .inl (cI, 1600, .inl (fun _ => 0))), (k2_22, .inl (cI, 9, .inl (fun _ => 0))), (k3_23, .inl (cI, 9, .inl (fun _ => 0))), (k4_24, .inl (cI, 3, .inl (fun _ => 0))), (k5_25, .inl (cI, 3, .inl (fun _ => 0))), (q_30, .inr (7, [.ref k1_31, .ref k2_32, .int 0, .int 0, .int 0, .int 0, .int 0])), (q_36, .inr (4, [.ref k1_37, .int 0, .ref k2_38, .ref k3_39, .ref k4_40])), (q_41, .inr (9, [.null, .null, .null, .null, .null, .null]))] H := hP
  have hD : va_D A [(x0, .inr (11, [.ref q_1, .ref q_3, .ref q_5, .ref q_6, .ref q_9, .ref q_10, .ref q_20, .ref q_30, .ref q_33, .ref q_36, .null, .null, .null, .null, .null, .int 0, .null, .long 0])), (q_1, .inr (10, [.ref k1_2, .int 0])), (k1_2, .inl (cI, 1600, .inl (fun _ => 0))), (q_3, .inr (10, [.ref k1_4, .int 0])), (k1_4, .inl (cI, 31, .inl (fun _ => 0))), (q_5, .inr (6, [.ref q_1, .int 0, .int 0, .int 0, .int (-1), .int 0, .int 0, .int (-1)])), (q_6, .inr (3, [.ref q_5, .ref k1_7, .ref k2_8])), (q_20, .inr (2, [.ref k1_21, .ref k2_22, .ref k3_23, .ref k4_24, .ref k5_25, .int 0, .int 0, .int 0, .int 0, .int 0])), (k1_21, .inr (0, [.ref k6_26, .ref k7_27, .ref k8_28, .ref k9_29, .int 0, .int 0])), (k6_26, .inl (cI, 1600, .inl (fun _ => 0))), (k2_22, .inl (cI, 9, .inl (fun _ => 0))), (k3_23, .inl (cI, 9, .inl (fun _ => 0))), (k4_24, .inl (cI, 3, .inl (fun _ => 0))), (k5_25, .inl (cI, 3, .inl (fun _ => 0))), (q_30, .inr (7, [.ref k1_31, .ref k2_32, .int 0, .int 0, .int 0, .int 0, .int 0])), (q_36, .inr (4, [.ref k1_37, .int 0, .ref k2_38, .ref k3_39, .ref k4_40])), (q_41, .inr (9, [.null, .null, .null, .null, .null, .null]))] := hD
  refine lv_dup hx hb dX11_init_135 rfl ?_
  refine sk_INv (n := 0) (rest := [.ref q_41, .ref x0]) (wr := [(x0, .inr (11, [.ref q_1, .ref q_3, .ref q_5, .ref q_6, .ref q_9, .ref q_10, .ref q_20, .ref q_30, .ref q_33, .ref q_36, .null, .null, .null, .null, .null, .int 0, .null, .long 0])), (q_1, .inr (10, [.ref k1_2, .int 0])), (k1_2, .inl (cI, 1600, .inl (fun _ => 0))), (q_3, .inr (10, [.ref k1_4, .int 0])), (k1_4, .inl (cI, 31, .inl (fun _ => 0))), (q_5, .inr (6, [.ref q_1, .int 0, .int 0, .int 0, .int (-1), .int 0, .int 0, .int (-1)])), (q_6, .inr (3, [.ref q_5, .ref k1_7, .ref k2_8])), (q_20, .inr (2, [.ref k1_21, .ref k2_22, .ref k3_23, .ref k4_24, .ref k5_25, .int 0, .int 0, .int 0, .int 0, .int 0])), (k1_21, .inr (0, [.ref k6_26, .ref k7_27, .ref k8_28, .ref k9_29, .int 0, .int 0])), (k6_26, .inl (cI, 1600, .inl (fun _ => 0))), (k2_22, .inl (cI, 9, .inl (fun _ => 0))), (k3_23, .inl (cI, 9, .inl (fun _ => 0))), (k4_24, .inl (cI, 3, .inl (fun _ => 0))), (k5_25, .inl (cI, 3, .inl (fun _ => 0))), (q_30, .inr (7, [.ref k1_31, .ref k2_32, .int 0, .int 0, .int 0, .int 0, .int 0])), (q_36, .inr (4, [.ref k1_37, .int 0, .ref k2_38, .ref k3_39, .ref k4_40]))]) ⟨hx, hb, hml, hown, hts⟩ hl.1 (c_Table_init l D cI cJ cC cZ cS q_41) hK.2.2.2.2.1 w_2_60 w_1_12 w_2_61 rfl (by decide +kernel) ⟨⟨(Nat.le_of_ble_eq_true rfl), (Nat.le_of_ble_eq_true rfl)⟩, (Nat.le_of_ble_eq_true rfl), (Nat.le_of_ble_eq_true rfl)⟩ hK hP hD hS hA [16] [0, 1, 2, 3, 4, 5, 6, 7, 8, 9, 10, 11, 12, 13, 14, 15] rfl rfl (by decide) (by decide) (by decide) rfl rfl (Nat.le_of_ble_eq_true rfl) dX11_init_136 (fun u H locs hw hP hD hS => ?_)
  obtain rfl := hw
  have hP : va_P D vwCl [(x0, .inr (11, [.ref q_1, .ref q_3, .ref q_5, .ref q_6, .ref q_9, .ref q_10, .ref q_20, .ref q_30, .ref q_33, .ref q_36, .null, .null, .null, .null, .null, .int 0, .null, .long 0])), (q_1, .inr (10, [.ref k1_2, .int 0])), (k1_2, .inl (cI, 1600, .inl (fun _ => 0))), (q_3, .inr (10, [.ref k1_4, .int 0])), (k1_4, .inl (cI, 31, .inl (fun _ => 0))), (q_5, .inr (6, [.ref q_1, .int 0, .int 0, .int 0, .int (-1), .int 0, .int 0, .int (-1)])), (q_6, .inr (3, [.ref q_5, .ref k1_7, .ref k2_8])), (q_20, .inr (2, [.ref k1_21, .ref k2_22, .ref k3_23, .ref k4_24, .ref k5_25, .int 0, .int 0, .int 0, .int 0, .int 0])), (k1_21, .inr (0, [.ref k6_26, .ref k7_27, .ref k8_28, .ref k9_29, .int 0, .int 0])), (k6_26, .inl (cI, 1600, .inl (fun _ => 0))), (k2_22, .inl (cI, 9, .inl (fun _ => 0))), (k3_23, .inl (cI, 9, .inl (fun _ => 0))), (k4_24, .inl (cI, 3, .inl (fun _ => 0))), (k5_25, .inl (cI, 3, .inl (fun _ => 0))), (q_30, .inr (7, [.ref k1_31, .ref k2_32, .int 0, .int 0, .int 0, .int 0, .int 0])), (q_36, .inr (4, [.ref k1_37, .int 0, .ref k2_38, .ref k3_39, .ref k4_40]))] H := hP
  have hD : va_D A [(x0, .inr (11, [.ref q_1, .ref q_3, .ref q_5, .ref q_6, .ref q_9, .ref q_10, .ref q_20, .ref q_30, .ref q_33, .ref q_36, .null, .null, .null, .null, .null, .int 0, .null, .long 0])), (q_1, .inr (10, [.ref k1_2, .int 0])), (k1_2, .inl (cI, 1600, .inl (fun _ => 0))), (q_3, .inr (10, [.ref k1_4, .int 0])), (k1_4, .inl (cI, 31, .inl (fun _ => 0))), (q_5, .inr (6, [.ref q_1, .int 0, .int 0, .int 0, .int (-1), .int 0, .int 0, .int (-1)])), (q_6, .inr (3, [.ref q_5, .ref k1_7, .ref k2_8])), (q_20, .inr (2, [.ref k1_21, .ref k2_22, .ref k3_23, .ref k4_24, .ref k5_25, .int 0, .int 0, .int 0, .int 0, .int 0])), (k1_21, .inr (0, [.ref k6_26, .ref k7_27, .ref k8_28, .ref k9_29, .int 0, .int 0])), (k6_26, .inl (cI, 1600, .inl (fun _ => 0))), (k2_22, .inl (cI, 9, .inl (fun _ => 0))), (k3_23, .inl (cI, 9, .inl (fun _ => 0))), (k4_24, .inl (cI, 3, .inl (fun _ => 0))), (k5_25, .inl (cI, 3, .inl (fun _ => 0))), (q_30, .inr (7, [.ref k1_31, .ref k2_32, .int 0, .int 0, .int 0, .int 0, .int 0])), (q_36, .inr (4, [.ref k1_37, .int 0, .ref k2_38, .ref k3_39, .ref k4_40]))] := hD
  refine W.widen (k := 113) (n := 11641) (Nat.le_of_ble_eq_true rfl) (Nat.le_of_ble_eq_true rfl) ?_
  refine sk_putF (ws' := [(x0, .inr (11, [.ref q_1, .ref q_3, .ref q_5, .ref q_6, .ref q_9, .ref q_10, .ref q_20, .ref q_30, .ref q_33, .ref q_36, .ref q_41, .null, .null, .null, .null, .int 0, .null, .long 0])), (q_1, .inr (10, [.ref k1_2, .int 0])), (k1_2, .inl (cI, 1600, .inl (fun _ => 0))), (q_3, .inr (10, [.ref k1_4, .int 0])), (k1_4, .inl (cI, 31, .inl (fun _ => 0))), (q_5, .inr (6, [.ref q_1, .int 0, .int 0, .int 0, .int (-1), .int 0, .int 0, .int (-1)])), (q_6, .inr (3, [.ref q_5, .ref k1_7, .ref k2_8])), (q_20, .inr (2, [.ref k1_21, .ref k2_22, .ref k3_23, .ref k4_24, .ref k5_25, .int 0, .int 0, .int 0, .int 0, .int 0])), (k1_21, .inr (0, [.ref k6_26, .ref k7_27, .ref k8_28, .ref k9_29, .int 0, .int 0])), (k6_26, .inl (cI, 1600, .inl (fun _ => 0))), (k2_22, .inl (cI, 9, .inl (fun _ => 0))), (k3_23, .inl (cI, 9, .inl (fun _ => 0))), (k4_24, .inl (cI, 3, .inl (fun _ => 0))), (k5_25, .inl (cI, 3, .inl (fun _ => 0))), (q_30, .inr (7, [.ref k1_31, .ref k2_32, .int 0, .int 0, .int 0, .int 0, .int 0])), (q_36, .inr (4, [.ref k1_37, .int 0, .ref k2_38, .ref k3_39, .ref k4_40]))]) (C := RX11) (T := TX11) (N := 18) (v := .ref q_41) hx hb hts inlX11 tyX11 tyX11_ok nmX11 hown hK hP hD hS 0 rfl rfl 10 (by decide) w_2_133 rfl hin rfl rfl rfl (Nat.le_of_ble_eq_true rfl) rfl dX11_init_139 (fun H locs hP hD hS => ?_)
  refine lv_aload_n hx hb dX11_init_142 rfl (lv_at hl 0 rfl) ?_
  refine sk_new (ci := 1) (fs := [.null, .null, .null, .null, .null, .null, .null, .int 0, .int 0]) (C := RX1) (T := TX1) (N := 9) (k1 := 114) (n1 := 11650) hx hb hts inlX1 tyX1 tyX1_ok hown w_2_89 w_2_90 w_1_13 hK hP hD hS hA rfl (fun j hj => by rcases (show j = 0 ∨ j = 1 ∨ j = 2 ∨ j = 3 ∨ j = 4 ∨ j = 5 ∨ j = 6 ∨ j = 7 ∨ j = 8 by omega) with rfl | rfl | rfl | rfl | rfl | rfl | rfl | rfl | rfl <;> rfl) (Nat.le_of_ble_eq_true rfl) (Nat.le_of_ble_eq_true rfl) (Nat.le_of_ble_eq_true rfl) (Nat.le_of_ble_eq_true rfl) dX11_init_143 (fun q_42 H hP hD hS => ?_)
  have hP : va_P D vwCl [(x0, .inr (11, [.ref q_1, .ref q_3, .ref q_5, .ref q_6, .ref q_9, .ref q_10, .ref q_20, .ref q_30, .ref q_33, .ref q_36, .ref q_41, .null, .null, .null, .null, .int 0, .null, .long 0])), (q_1, .inr (10, [.ref k1_2, .int 0])), (k1_2, .inl (cI, 1600, .inl (fun _ => 0))), (q_3, .inr (10, [.ref k1_4, .int 0])), (k1_4, .inl (cI, 31, .inl (fun _ => 0))), (q_5, .inr (6, [.ref q_1, .int 0, .int 0, .int 0, .int (-1), .int 0, .int 0, .int (-1)])), (q_6, .inr (3, [.ref q_5, .ref k1_7, .ref k2_8])), (q_20, .inr (2, [.ref k1_21, .ref k2_22, .ref k3_23, .ref k4_24, .ref k5_25, .int 0, .int 0, .int 0, .int 0, .int 0])), (k1_21, .inr (0, [.ref k6_26, .ref k7_27, .ref k8_28, .ref k9_29, .int 0, .int 0])), (k6_26, .inl (cI, 1600, .inl (fun _ => 0))), (k2_22, .inl (cI, 9, .inl (fun _ => 0))), (k3_23, .inl (cI, 9, .inl (fun _ => 0))), (k4_24, .inl (cI, 3, .inl (fun _ => 0))), (k5_25, .inl (cI, 3, .inl (fun _ => 0))), (q_30, .inr (7, [.ref k1_31, .ref k2_32, .int 0, .int 0, .int 0, .int 0, .int 0])), (q_36, .inr (4, [.ref k1_37, .int 0, .ref k2_38, .ref k3_39, .ref k4_40])), (q_42, .inr (1, [.null, .null, .null, .null, .null, .null, .null, .int 0, .int 0]))] H := hP
  have hD : va_D A [(x0, .inr (11, [.ref q_1, .ref q_3, .ref q_5, .ref q_6, .ref q_9, .ref q_10, .ref q_20, .ref q_30, .ref q_33, .ref q_36, .ref q_41, .null, .null, .null, .null, .int 0, .null, .long 0])), (q_1, .inr (10, [.ref k1_2, .int 0])), (k1_2, .inl (cI, 1600, .inl (fun _ => 0))), (q_3, .inr (10, [.ref k1_4, .int 0])), (k1_4, .inl (cI, 31, .inl (fun _ => 0))), (q_5, .inr (6, [.ref q_1, .int 0, .int 0, .int 0, .int (-1), .int 0, .int 0, .int (-1)])), (q_6, .inr (3, [.ref q_5, .ref k1_7, .ref k2_8])), (q_20, .inr (2, [.ref k1_21, .ref k2_22, .ref k3_23, .ref k4_24, .ref k5_25, .int 0, .int 0, .int 0, .int 0, .int 0])), (k1_21, .inr (0, [.ref k6_26, .ref k7_27, .ref k8_28, .ref k9_29, .int 0, .int 0])), (k6_26, .inl (cI, 1600, .inl (fun _ => 0))), (k2_22, .inl (cI, 9, .inl (fun _ => 0))), (k3_23, .inl (cI, 9, .inl (fun _ => 0))), (k4_24, .inl (cI, 3, .inl (fun _ => 0))), (k5_25, .inl (cI, 3, .inl (fun _ => 0))), (q_30, .inr (7, [.ref k1_31, .ref k2_32, .int 0, .int 0, .int 0, .int 0, .int 0])), (q_36, .inr (4, [.ref k1_37, .int 0, .ref k2_38, .ref k3_39, .ref k4_40])), (q_42, .inr (1, [.null, .null, .null, .null, .null, .null, .null, .int 0, .int 0]))] := hD
  refine lv_dup hx hb dX11_init_146 rfl ?_
  refine lv_aload_n hx hb dX11_init_147 rfl (lv_at hl 0 rfl) ?_
  refine sk_get (v := .ref q_41) (C := RX11) (T := TX11) (N := 18) hx hb hts inlX11 hown hK hP 0 rfl rfl 10 (by decide) w_2_133 rfl dX11_init_148 ?_
  refine sk_Iv (n := 1) (rest := [.ref q_42, .ref x0]) (wr := [(x0, .inr (11, [.ref q_1, .ref q_3, .ref q_5, .ref q_6, .ref q_9, .ref q_10, .ref q_20, .ref q_30, .ref q_33, .ref q_36, .ref q_41, .null, .null, .null, .null, .int 0, .null, .long 0])), (q_1, .inr (10, [.ref k1_2, .int 0])), (k1_2, .inl (cI, 1600, .inl (fun _ => 0))), (q_3, .inr (10, [.ref k1_4, .int 0])), (k1_4, .inl (cI, 31, .inl (fun _ => 0))), (q_5, .inr (6, [.ref q_1, .int 0, .int 0, .int 0, .int (-1), .int 0, .int 0, .int (-1)])), (q_6, .inr (3, [.ref q_5, .ref k1_7, .ref k2_8])), (q_20, .inr (2, [.ref k1_21, .ref k2_22, .ref k3_23, .ref k4_24, .ref k5_25, .int 0, .int 0, .int 0, .int 0, .int 0])), (k1_21, .inr (0, [.ref k6_26, .ref k7_27, .ref k8_28, .ref k9_29, .int 0, .int 0])), (k6_26, .inl (cI, 1600, .inl (fun _ => 0))), (k2_22, .inl (cI, 9, .inl (fun _ => 0))), (k3_23, .inl (cI, 9, .inl (fun _ => 0))), (k4_24, .inl (cI, 3, .inl (fun _ => 0))), (k5_25, .inl (cI, 3, .inl (fun _ => 0))), (q_30, .inr (7, [.ref k1_31, .ref k2_32, .int 0, .int 0, .int 0, .int 0, .int 0])), (q_36, .inr (4, [.ref k1_37, .int 0, .ref k2_38, .ref k3_39, .ref k4_40]))]) ⟨hx, hb, hml, hown, hts⟩ hl.1 (c_Graph_init l D cI cJ cC cZ cS q_42 q_41) w_2_91 w_2_92 w_1_13 w_2_93 rfl (by decide +kernel) ⟨⟨(Nat.le_of_ble_eq_true rfl), (Nat.le_of_ble_eq_true rfl)⟩, (Nat.le_of_ble_eq_true rfl), (Nat.le_of_ble_eq_true rfl)⟩ hK hP hD hS hA [16] [0, 1, 2, 3, 4, 5, 6, 7, 8, 9, 10, 11, 12, 13, 14, 15] rfl rfl (by decide) (by decide) (by decide) rfl rfl (Nat.le_of_ble_eq_true rfl) dX11_init_151 (fun u H locs hw hP hD hS => ?_)
  obtain rfl := hw
  have hP : va_P D vwCl [(x0, .inr (11, [.ref q_1, .ref q_3, .ref q_5, .ref q_6, .ref q_9, .ref q_10, .ref q_20, .ref q_30, .ref q_33, .ref q_36, .ref q_41, .null, .null, .null, .null, .int 0, .null, .long 0])), (q_1, .inr (10, [.ref k1_2, .int 0])), (k1_2, .inl (cI, 1600, .inl (fun _ => 0))), (q_3, .inr (10, [.ref k1_4, .int 0])), (k1_4, .inl (cI, 31, .inl (fun _ => 0))), (q_5, .inr (6, [.ref q_1, .int 0, .int 0, .int 0, .int (-1), .int 0, .int 0, .int (-1)])), (q_6, .inr (3, [.ref q_5, .ref k1_7, .ref k2_8])), (q_20, .inr (2, [.ref k1_21, .ref k2_22, .ref k3_23, .ref k4_24, .ref k5_25, .int 0, .int 0, .int 0, .int 0, .int 0])), (k1_21, .inr (0, [.ref k6_26, .ref k7_27, .ref k8_28, .ref k9_29, .int 0, .int 0])), (k6_26, .inl (cI, 1600, .inl (fun _ => 0))), (k2_22, .inl (cI, 9, .inl (fun _ => 0))), (k3_23, .inl (cI, 9, .inl (fun _ => 0))), (k4_24, .inl (cI, 3, .inl (fun _ => 0))), (k5_25, .inl (cI, 3, .inl (fun _ => 0))), (q_30, .inr (7, [.ref k1_31, .ref k2_32, .int 0, .int 0, .int 0, .int 0, .int 0])), (q_36, .inr (4, [.ref k1_37, .int 0, .ref k2_38, .ref k3_39, .ref k4_40]))] H := hP
  have hD : va_D A [(x0, .inr (11, [.ref q_1, .ref q_3, .ref q_5, .ref q_6, .ref q_9, .ref q_10, .ref q_20, .ref q_30, .ref q_33, .ref q_36, .ref q_41, .null, .null, .null, .null, .int 0, .null, .long 0])), (q_1, .inr (10, [.ref k1_2, .int 0])), (k1_2, .inl (cI, 1600, .inl (fun _ => 0))), (q_3, .inr (10, [.ref k1_4, .int 0])), (k1_4, .inl (cI, 31, .inl (fun _ => 0))), (q_5, .inr (6, [.ref q_1, .int 0, .int 0, .int 0, .int (-1), .int 0, .int 0, .int (-1)])), (q_6, .inr (3, [.ref q_5, .ref k1_7, .ref k2_8])), (q_20, .inr (2, [.ref k1_21, .ref k2_22, .ref k3_23, .ref k4_24, .ref k5_25, .int 0, .int 0, .int 0, .int 0, .int 0])), (k1_21, .inr (0, [.ref k6_26, .ref k7_27, .ref k8_28, .ref k9_29, .int 0, .int 0])), (k6_26, .inl (cI, 1600, .inl (fun _ => 0))), (k2_22, .inl (cI, 9, .inl (fun _ => 0))), (k3_23, .inl (cI, 9, .inl (fun _ => 0))), (k4_24, .inl (cI, 3, .inl (fun _ => 0))), (k5_25, .inl (cI, 3, .inl (fun _ => 0))), (q_30, .inr (7, [.ref k1_31, .ref k2_32, .int 0, .int 0, .int 0, .int 0, .int 0])), (q_36, .inr (4, [.ref k1_37, .int 0, .ref k2_38, .ref k3_39, .ref k4_40]))] := hD
  refine W.widen (k := 120) (n := 12059) (Nat.le_of_ble_eq_true rfl) (Nat.le_of_ble_eq_true rfl) ?_
  refine sk_putF (ws' := [(x0, .inr (11, [.ref q_1, .ref q_3, .ref q_5, .ref q_6, .ref q_9, .ref q_10, .ref q_20, .ref q_30, .ref q_33, .ref q_36, .ref q_41, .ref q_42, .null, .null, .null, .int 0, .null, .long 0])), (q_1, .inr (10, [.ref k1_2, .int 0])), (k1_2, .inl (cI, 1600, .inl (fun _ => 0))), (q_3, .inr (10, [.ref k1_4, .int 0])), (k1_4, .inl (cI, 31, .inl (fun _ => 0))), (q_5, .inr (6, [.ref q_1, .int 0, .int 0, .int 0, .int (-1), .int 0, .int 0, .int (-1)])), (q_6, .inr (3, [.ref q_5, .ref k1_7, .ref k2_8])), (q_20, .inr (2, [.ref k1_21, .ref k2_22, .ref k3_23, .ref k4_24, .ref k5_25, .int 0, .int 0, .int 0, .int 0, .int 0])), (k1_21, .inr (0, [.ref k6_26, .ref k7_27, .ref k8_28, .ref k9_29, .int 0, .int 0])), (k6_26, .inl (cI, 1600, .inl (fun _ => 0))), (k2_22, .inl (cI, 9, .inl (fun _ => 0))), (k3_23, .inl (cI, 9, .inl (fun _ => 0))), (k4_24, .inl (cI, 3, .inl (fun _ => 0))), (k5_25, .inl (cI, 3, .inl (fun _ => 0))), (q_30, .inr (7, [.ref k1_31, .ref k2_32, .int 0, .int 0, .int 0, .int 0, .int 0])), (q_36, .inr (4, [.ref k1_37, .int 0, .ref k2_38, .ref k3_39, .ref k4_40]))]) (C := RX11) (T := TX11) (N := 18) (v := .ref q_42) hx hb hts inlX11 tyX11 tyX11_ok nmX11 hown hK hP hD hS 0 rfl rfl 11 (by decide) w_2_134 rfl hin rfl rfl rfl (Nat.le_of_ble_eq_true rfl) rfl dX11_init_154 (fun H locs hP hD hS => ?_)
  refine lv_aload_n hx hb dX11_init_157 rfl (lv_at hl 0 rfl) ?_
  refine lv_bipush (v := 9) hx hb dX11_init_158 (by decide) ?_
  refine sk_newa (atype := .int) (ty := .int) (a0 := (9, .inl (fun _ => 0))) (cA := cI) (k1 := 121) (n1 := 12068) hx hb hts w_1_49 rfl (fun _ _ h => h) 0 rfl hK hP hD hS hA (fun _ => vp_cell_i _ _ _) (by decide) (by decide) (Nat.le_of_ble_eq_true rfl) (Nat.le_of_ble_eq_true rfl) (Nat.le_of_ble_eq_true rfl) (Nat.le_of_ble_eq_true rfl) (Nat.le_of_ble_eq_true rfl) dX11_init_160 (fun q_43 H hP hD hS => ?_)
  have hP : va_P D vwCl [(x0, .inr (11, [.ref q_1, .ref q_3, .ref q_5, .ref q_6, .ref q_9, .ref q_10, .ref q_20, .ref q_30, .ref q_33, .ref q_36, .ref q_41, .ref q_42, .null, .null, .null, .int 0, .null, .long 0])), (q_1, .inr (10, [.ref k1_2, .int 0])), (k1_2, .inl (cI, 1600, .inl (fun _ => 0))), (q_3, .inr (10, [.ref k1_4, .int 0])), (k1_4, .inl (cI, 31, .inl (fun _ => 0))), (q_5, .inr (6, [.ref q_1, .int 0, .int 0, .int 0, .int (-1), .int 0, .int 0, .int (-1)])), (q_6, .inr (3, [.ref q_5, .ref k1_7, .ref k2_8])), (q_20, .inr (2, [.ref k1_21, .ref k2_22, .ref k3_23, .ref k4_24, .ref k5_25, .int 0, .int 0, .int 0, .int 0, .int 0])), (k1_21, .inr (0, [.ref k6_26, .ref k7_27, .ref k8_28, .ref k9_29, .int 0, .int 0])), (k6_26, .inl (cI, 1600, .inl (fun _ => 0))), (k2_22, .inl (cI, 9, .inl (fun _ => 0))), (k3_23, .inl (cI, 9, .inl (fun _ => 0))), (k4_24, .inl (cI, 3, .inl (fun _ => 0))), (k5_25, .inl (cI, 3, .inl (fun _ => 0))), (q_30, .inr (7, [.ref k1_31, .ref k2_32, .int 0, .int 0, .int 0, .int 0, .int 0])), (q_36, .inr (4, [.ref k1_37, .int 0, .ref k2_38, .ref k3_39, .ref k4_40])), (q_43, .inl (cI, 9, .inl (fun _ => 0)))] H := hP
  have hD : va_D A [(x0, .inr (11, [.ref q_1, .ref q_3, .ref q_5, .ref q_6, .ref q_9, .ref q_10, .ref q_20, .ref q_30, .ref q_33, .ref q_36, .ref q_41, .ref q_42, .null, .null, .null, .int 0, .null, .long 0])), (q_1, .inr (10, [.ref k1_2, .int 0])), (k1_2, .inl (cI, 1600, .inl (fun _ => 0))), (q_3, .inr (10, [.ref k1_4, .int 0])), (k1_4, .inl (cI, 31, .inl (fun _ => 0))), (q_5, .inr (6, [.ref q_1, .int 0, .int 0, .int 0, .int (-1), .int 0, .int 0, .int (-1)])), (q_6, .inr (3, [.ref q_5, .ref k1_7, .ref k2_8])), (q_20, .inr (2, [.ref k1_21, .ref k2_22, .ref k3_23, .ref k4_24, .ref k5_25, .int 0, .int 0, .int 0, .int 0, .int 0])), (k1_21, .inr (0, [.ref k6_26, .ref k7_27, .ref k8_28, .ref k9_29, .int 0, .int 0])), (k6_26, .inl (cI, 1600, .inl (fun _ => 0))), (k2_22, .inl (cI, 9, .inl (fun _ => 0))), (k3_23, .inl (cI, 9, .inl (fun _ => 0))), (k4_24, .inl (cI, 3, .inl (fun _ => 0))), (k5_25, .inl (cI, 3, .inl (fun _ => 0))), (q_30, .inr (7, [.ref k1_31, .ref k2_32, .int 0, .int 0, .int 0, .int 0, .int 0])), (q_36, .inr (4, [.ref k1_37, .int 0, .ref k2_38, .ref k3_39, .ref k4_40])), (q_43, .inl (cI, 9, .inl (fun _ => 0)))] := hD
  refine sk_putF (ws' := [(x0, .inr (11, [.ref q_1, .ref q_3, .ref q_5, .ref q_6, .ref q_9, .ref q_10, .ref q_20, .ref q_30, .ref q_33, .ref q_36, .ref q_41, .ref q_42, .ref q_43, .null, .null, .int 0, .null, .long 0])), (q_1, .inr (10, [.ref k1_2, .int 0])), (k1_2, .inl (cI, 1600, .inl (fun _ => 0))), (q_3, .inr (10, [.ref k1_4, .int 0])), (k1_4, .inl (cI, 31, .inl (fun _ => 0))), (q_5, .inr (6, [.ref q_1, .int 0, .int 0, .int 0, .int (-1), .int 0, .int 0, .int (-1)])), (q_6, .inr (3, [.ref q_5, .ref k1_7, .ref k2_8])), (q_20, .inr (2, [.ref k1_21, .ref k2_22, .ref k3_23, .ref k4_24, .ref k5_25, .int 0, .int 0, .int 0, .int 0, .int 0])), (k1_21, .inr (0, [.ref k6_26, .ref k7_27, .ref k8_28, .ref k9_29, .int 0, .int 0])), (k6_26, .inl (cI, 1600, .inl (fun _ => 0))), (k2_22, .inl (cI, 9, .inl (fun _ => 0))), (k3_23, .inl (cI, 9, .inl (fun _ => 0))), (k4_24, .inl (cI, 3, .inl (fun _ => 0))), (k5_25, .inl (cI, 3, .inl (fun _ => 0))), (q_30, .inr (7, [.ref k1_31, .ref k2_32, .int 0, .int 0, .int 0, .int 0, .int 0])), (q_36, .inr (4, [.ref k1_37, .int 0, .ref k2_38, .ref k3_39, .ref k4_40])), (q_43, .inl (cI, 9, .inl (fun _ => 0)))]) (C := RX11) (T := TX11) (N := 18) (v := .ref q_43) hx hb hts inlX11 tyX11 tyX11_ok nmX11 hown hK hP hD hS 0 rfl rfl 12 (by decide) w_2_135 rfl hin rfl rfl rfl (Nat.le_of_ble_eq_true rfl) rfl dX11_init_162 (fun H locs hP hD hS => ?_)
  have hP := hP.sub (ws' := [(x0, .inr (11, [.ref q_1, .ref q_3, .ref q_5, .ref q_6, .ref q_9, .ref q_10, .ref q_20, .ref q_30, .ref q_33, .ref q_36, .ref q_41, .ref q_42, .ref q_43, .null, .null, .int 0, .null, .long 0])), (q_1, .inr (10, [.ref k1_2, .int 0])), (k1_2, .inl (cI, 1600, .inl (fun _ => 0))), (q_3, .inr (10, [.ref k1_4, .int 0])), (k1_4, .inl (cI, 31, .inl (fun _ => 0))), (q_5, .inr (6, [.ref q_1, .int 0, .int 0, .int 0, .int (-1), .int 0, .int 0, .int (-1)])), (q_6, .inr (3, [.ref q_5, .ref k1_7, .ref k2_8])), (q_20, .inr (2, [.ref k1_21, .ref k2_22, .ref k3_23, .ref k4_24, .ref k5_25, .int 0, .int 0, .int 0, .int 0, .int 0])), (k1_21, .inr (0, [.ref k6_26, .ref k7_27, .ref k8_28, .ref k9_29, .int 0, .int 0])), (k6_26, .inl (cI, 1600, .inl (fun _ => 0))), (k2_22, .inl (cI, 9, .inl (fun _ => 0))), (k3_23, .inl (cI, 9, .inl (fun _ => 0))), (k4_24, .inl (cI, 3, .inl (fun _ => 0))), (k5_25, .inl (cI, 3, .inl (fun _ => 0))), (q_30, .inr (7, [.ref k1_31, .ref k2_32, .int 0, .int 0, .int 0, .int 0, .int 0])), (q_36, .inr (4, [.ref k1_37, .int 0, .ref k2_38, .ref k3_39, .ref k4_40]))]) [0, 1, 2, 3, 4, 5, 6, 7, 8, 9, 10, 11, 12, 13, 14, 15] rfl
  have hD := hD.sub (ws' := [(x0, .inr (11, [.ref q_1, .ref q_3, .ref q_5, .ref q_6, .ref q_9, .ref q_10, .ref q_20, .ref q_30, .ref q_33, .ref q_36, .ref q_41, .ref q_42, .ref q_43, .null, .null, .int 0, .null, .long 0])), (q_1, .inr (10, [.ref k1_2, .int 0])), (k1_2, .inl (cI, 1600, .inl (fun _ => 0))), (q_3, .inr (10, [.ref k1_4, .int 0])), (k1_4, .inl (cI, 31, .inl (fun _ => 0))), (q_5, .inr (6, [.ref q_1, .int 0, .int 0, .int 0, .int (-1), .int 0, .int 0, .int (-1)])), (q_6, .inr (3, [.ref q_5, .ref k1_7, .ref k2_8])), (q_20, .inr (2, [.ref k1_21, .ref k2_22, .ref k3_23, .ref k4_24, .ref k5_25, .int 0, .int 0, .int 0, .int 0, .int 0])), (k1_21, .inr (0, [.ref k6_26, .ref k7_27, .ref k8_28, .ref k9_29, .int 0, .int 0])), (k6_26, .inl (cI, 1600, .inl (fun _ => 0))), (k2_22, .inl (cI, 9, .inl (fun _ => 0))), (k3_23, .inl (cI, 9, .inl (fun _ => 0))), (k4_24, .inl (cI, 3, .inl (fun _ => 0))), (k5_25, .inl (cI, 3, .inl (fun _ => 0))), (q_30, .inr (7, [.ref k1_31, .ref k2_32, .int 0, .int 0, .int 0, .int 0, .int 0])), (q_36, .inr (4, [.ref k1_37, .int 0, .ref k2_38, .ref k3_39, .ref k4_40]))]) [0, 1, 2, 3, 4, 5, 6, 7, 8, 9, 10, 11, 12, 13, 14, 15] (by decide) rfl
  refine lv_aload_n hx hb dX11_init_165 rfl (lv_at hl 0 rfl) ?_
  refine lv_bipush (v := 9) hx hb dX11_init_166 (by decide) ?_
  refine sk_newa (atype := .int) (ty := .int) (a0 := (9, .inl (fun _ => 0))) (cA := cI) (k1 := 122) (n1 := 12077) hx hb hts w_1_49 rfl (fun _ _ h => h) 0 rfl hK hP hD hS hA (fun _ => vp_cell_i _ _ _) (by decide) (by decide) (Nat.le_of_ble_eq_true rfl) (Nat.le_of_ble_eq_true rfl) (Nat.le_of_ble_eq_true rfl) (Nat.le_of_ble_eq_true rfl) (Nat.le_of_ble_eq_true rfl) dX11_init_168 (fun q_44 H hP hD hS => ?_)
  have hP : va_P D vwCl [(x0, .inr (11, [.ref q_1, .ref q_3, .ref q_5, .ref q_6, .ref q_9, .ref q_10, .ref q_20, .ref q_30, .ref q_33, .ref q_36, .ref q_41, .ref q_42, .ref q_43, .null, .null, .int 0, .null, .long 0])), (q_1, .inr (10, [.ref k1_2, .int 0])), (k1_2, .inl (cI, 1600, .inl (fun _ => 0))), (q_3, .inr (10, [.ref k1_4, .int 0])), (k1_4, .inl (cI, 31, .inl (fun _ => 0))), (q_5, .inr (6, [.ref q_1, .int 0, .int 0, .int 0, .int (-1), .int 0, .int 0, .int (-1)])), (q_6, .inr (3, [.ref q_5, .ref k1_7, .ref k2_8])), (q_20, .inr (2, [.ref k1_21, .ref k2_22, .ref k3_23, .ref k4_24, .ref k5_25, .int 0, .int 0, .int 0, .int 0, .int 0])), (k1_21, .inr (0, [.ref k6_26, .ref k7_27, .ref k8_28, .ref k9_29, .int 0, .int 0])), (k6_26, .inl (cI, 1600, .inl (fun _ => 0))), (k2_22, .inl (cI, 9, .inl (fun _ => 0))), (k3_23, .inl (cI, 9, .inl (fun _ => 0))), (k4_24, .inl (cI, 3, .inl (fun _ => 0))), (k5_25, .inl (cI, 3, .inl (fun _ => 0))), (q_30, .inr (7, [.ref k1_31, .ref k2_32, .int 0, .int 0, .int 0, .int 0, .int 0])), (q_36, .inr (4, [.ref k1_37, .int 0, .ref k2_38, .ref k3_39, .ref k4_40])), (q_44, .inl (cI, 9, .inl (fun _ => 0)))] H := hP
  have hD : va_D A [(x0, .inr (11, [.ref q_1, .ref q_3, .ref q_5, .ref q_6, .ref q_9, .ref q_10, .ref q_20, .ref q_30, .ref q_33, .ref q_36, .ref q_41, .ref q_42, .ref q_43, .null, .null, .int 0, .null, .long 0])), (q_1, .inr (10, [.ref k1_2, .int 0])), (k1_2, .inl (cI, 1600, .inl (fun _ => 0))), (q_3, .inr (10, [.ref k1_4, .int 0])), (k1_4, .inl (cI, 31, .inl (fun _ => 0))), (q_5, .inr (6, [.ref q_1, .int 0, .int 0, .int 0, .int (-1), .int 0, .int 0, .int (-1)])), (q_6, .inr (3, [.ref q_5, .ref k1_7, .ref k2_8])), (q_20, .inr (2, [.ref k1_21, .ref k2_22, .ref k3_23, .ref k4_24, .ref k5_25, .int 0, .int 0, .int 0, .int 0, .int 0])), (k1_21, .inr (0, [.ref k6_26, .ref k7_27, .ref k8_28, .ref k9_29, .int 0, .int 0])), (k6_26, .inl (cI, 1600, .inl (fun _ => 0))), (k2_22, .inl (cI, 9, .inl (fun _ => 0))), (k3_23, .inl (cI, 9, .inl (fun _ => 0))), (k4_24, .inl (cI, 3, .inl (fun _ => 0))), (k5_25, .inl (cI, 3, .inl (fun _ => 0))), (q_30, .inr (7, [.ref k1_31, .ref k2_32, .int 0, .int 0, .int 0, .int 0, .int 0])), (q_36, .inr (4, [.ref k1_37, .int 0, .ref k2_38, .ref k3_39, .ref k4_40])), (q_44, .inl (cI, 9, .inl (fun _ => 0)))] := hD
  refine sk_putF (ws' := [(x0, .inr (11, [.ref q_1, .ref q_3, .ref q_5, .ref q_6, .ref q_9, .ref q_10, .ref q_20, .ref q_30, .ref q_33, .ref q_36, .ref q_41, .ref q_42, .ref q_43, .ref q_44, .null, .int 0, .null, .long 0])), (q_1, .inr (10, [.ref k1_2, .int 0])), (k1_2, .inl (cI, 1600, .inl (fun _ => 0))), (q_3, .inr (10, [.ref k1_4, .int 0])), (k1_4, .inl (cI, 31, .inl (fun _ => 0))), (q_5, .inr (6, [.ref q_1, .int 0, .int 0, .int 0, .int (-1), .int 0, .int 0, .int (-1)])), (q_6, .inr (3, [.ref q_5, .ref k1_7, .ref k2_8])), (q_20, .inr (2, [.ref k1_21, .ref k2_22, .ref k3_23, .ref k4_24, .ref k5_25, .int 0, .int 0, .int 0, .int 0, .int 0])), (k1_21, .inr (0, [.ref k6_26, .ref k7_27, .ref k8_28, .ref k9_29, .int 0, .int 0])), (k6_26, .inl (cI, 1600, .inl (fun _ => 0))), (k2_22, .inl (cI, 9, .inl (fun _ => 0))), (k3_23, .inl (cI, 9, .inl (fun _ => 0))), (k4_24, .inl (cI, 3, .inl (fun _ => 0))), (k5_25, .inl (cI, 3, .inl (fun _ => 0))), (q_30, .inr (7, [.ref k1_31, .ref k2_32, .int 0, .int 0, .int 0, .int 0, .int 0])), (q_36, .inr (4, [.ref k1_37, .int 0, .ref k2_38, .ref k3_39, .ref k4_40])), (q_44, .inl (cI, 9, .inl (fun _ => 0)))]) (C := RX11) (T := TX11) (N := 18) (v := .ref q_44) hx hb hts inlX11 tyX11 tyX11_ok nmX11 hown hK hP hD hS 0 rfl rfl 13 (by decide) w_2_136 rfl hin rfl rfl rfl (Nat.le_of_ble_eq_true rfl) rfl dX11_init_170 (fun H locs hP hD hS => ?_)
  have hP := hP.sub (ws' := [(x0, .inr (11, [.ref q_1, .ref q_3, .ref q_5, .ref q_6, .ref q_9, .ref q_10, .ref q_20, .ref q_30, .ref q_33, .ref q_36, .ref q_41, .ref q_42, .ref q_43, .ref q_44, .null, .int 0, .null, .long 0])), (q_1, .inr (10, [.ref k1_2, .int 0])), (k1_2, .inl (cI, 1600, .inl (fun _ => 0))), (q_3, .inr (10, [.ref k1_4, .int 0])), (k1_4, .inl (cI, 31, .inl (fun _ => 0))), (q_5, .inr (6, [.ref q_1, .int 0, .int 0, .int 0, .int (-1), .int 0, .int 0, .int (-1)])), (q_6, .inr (3, [.ref q_5, .ref k1_7, .ref k2_8])), (q_20, .inr (2, [.ref k1_21, .ref k2_22, .ref k3_23, .ref k4_24, .ref k5_25, .int 0, .int 0, .int 0, .int 0, .int 0])), (k1_21, .inr (0, [.ref k6_26, .ref k7_27, .ref k8_28, .ref k9_29, .int 0, .int 0])), (k6_26, .inl (cI, 1600, .inl (fun _ => 0))), (k2_22, .inl (cI, 9, .inl (fun _ => 0))), (k3_23, .inl (cI, 9, .inl (fun _ => 0))), (k4_24, .inl (cI, 3, .inl (fun _ => 0))), (k5_25, .inl (cI, 3, .inl (fun _ => 0))), (q_30, .inr (7, [.ref k1_31, .ref k2_32, .int 0, .int 0, .int 0, .int 0, .int 0])), (q_36, .inr (4, [.ref k1_37, .int 0, .ref k2_38, .ref k3_39, .ref k4_40]))]) [0, 1, 2, 3, 4, 5, 6, 7, 8, 9, 10, 11, 12, 13, 14, 15] rfl
  have hD := hD.sub (ws' := [(x0, .inr (11, [.ref q_1, .ref q_3, .ref q_5, .ref q_6, .ref q_9, .ref q_10, .ref q_20, .ref q_30, .ref q_33, .ref q_36, .ref q_41, .ref q_42, .ref q_43, .ref q_44, .null, .int 0, .null, .long 0])), (q_1, .inr (10, [.ref k1_2, .int 0])), (k1_2, .inl (cI, 1600, .inl (fun _ => 0))), (q_3, .inr (10, [.ref k1_4, .int 0])), (k1_4, .inl (cI, 31, .inl (fun _ => 0))), (q_5, .inr (6, [.ref q_1, .int 0, .int 0, .int 0, .int (-1), .int 0, .int 0, .int (-1)])), (q_6, .inr (3, [.ref q_5, .ref k1_7, .ref k2_8])), (q_20, .inr (2, [.ref k1_21, .ref k2_22, .ref k3_23, .ref k4_24, .ref k5_25, .int 0, .int 0, .int 0, .int 0, .int 0])), (k1_21, .inr (0, [.ref k6_26, .ref k7_27, .ref k8_28, .ref k9_29, .int 0, .int 0])), (k6_26, .inl (cI, 1600, .inl (fun _ => 0))), (k2_22, .inl (cI, 9, .inl (fun _ => 0))), (k3_23, .inl (cI, 9, .inl (fun _ => 0))), (k4_24, .inl (cI, 3, .inl (fun _ => 0))), (k5_25, .inl (cI, 3, .inl (fun _ => 0))), (q_30, .inr (7, [.ref k1_31, .ref k2_32, .int 0, .int 0, .int 0, .int 0, .int 0])), (q_36, .inr (4, [.ref k1_37, .int 0, .ref k2_38, .ref k3_39, .ref k4_40]))]) [0, 1, 2, 3, 4, 5, 6, 7, 8, 9, 10, 11, 12, 13, 14, 15] (by decide) rfl
  refine lv_aload_n hx hb dX11_init_173 rfl (lv_at hl 0 rfl) ?_
  refine lv_bipush (v := 16) hx hb dX11_init_174 (by decide) ?_
  refine sk_newa (atype := .int) (ty := .int) (a0 := (16, .inl (fun _ => 0))) (cA := cI) (k1 := 123) (n1 := 12093) hx hb hts w_1_49 rfl (fun _ _ h => h) 0 rfl hK hP hD hS hA (fun _ => vp_cell_i _ _ _) (by decide) (by decide) (Nat.le_of_ble_eq_true rfl) (Nat.le_of_ble_eq_true rfl) (Nat.le_of_ble_eq_true rfl) (Nat.le_of_ble_eq_true rfl) (Nat.le_of_ble_eq_true rfl) dX11_init_176 (fun q_45 H hP hD hS => ?_)
  have hP : va_P D vwCl [(x0, .inr (11, [.ref q_1, .ref q_3, .ref q_5, .ref q_6, .ref q_9, .ref q_10, .ref q_20, .ref q_30, .ref q_33, .ref q_36, .ref q_41, .ref q_42, .ref q_43, .ref q_44, .null, .int 0, .null, .long 0])), (q_1, .inr (10, [.ref k1_2, .int 0])), (k1_2, .inl (cI, 1600, .inl (fun _ => 0))), (q_3, .inr (10, [.ref k1_4, .int 0])), (k1_4, .inl (cI, 31, .inl (fun _ => 0))), (q_5, .inr (6, [.ref q_1, .int 0, .int 0, .int 0, .int (-1), .int 0, .int 0, .int (-1)])), (q_6, .inr (3, [.ref q_5, .ref k1_7, .ref k2_8])), (q_20, .inr (2, [.ref k1_21, .ref k2_22, .ref k3_23, .ref k4_24, .ref k5_25, .int 0, .int 0, .int 0, .int 0, .int 0])), (k1_21, .inr (0, [.ref k6_26, .ref k7_27, .ref k8_28, .ref k9_29, .int 0, .int 0])), (k6_26, .inl (cI, 1600, .inl (fun _ => 0))), (k2_22, .inl (cI, 9, .inl (fun _ => 0))), (k3_23, .inl (cI, 9, .inl (fun _ => 0))), (k4_24, .inl (cI, 3, .inl (fun _ => 0))), (k5_25, .inl (cI, 3, .inl (fun _ => 0))), (q_30, .inr (7, [.ref k1_31, .ref k2_32, .int 0, .int 0, .int 0, .int 0, .int 0])), (q_36, .inr (4, [.ref k1_37, .int 0, .ref k2_38, .ref k3_39, .ref k4_40])), (q_45, .inl (cI, 16, .inl (fun _ => 0)))] H := hP
  have hD : va_D A [(x0, .inr (11, [.ref q_1, .ref q_3, .ref q_5, .ref q_6, .ref q_9, .ref q_10, .ref q_20, .ref q_30, .ref q_33, .ref q_36, .ref q_41, .ref q_42, .ref q_43, .ref q_44, .null, .int 0, .null, .long 0])), (q_1, .inr (10, [.ref k1_2, .int 0])), (k1_2, .inl (cI, 1600, .inl (fun _ => 0))), (q_3, .inr (10, [.ref k1_4, .int 0])), (k1_4, .inl (cI, 31, .inl (fun _ => 0))), (q_5, .inr (6, [.ref q_1, .int 0, .int 0, .int 0, .int (-1), .int 0, .int 0, .int (-1)])), (q_6, .inr (3, [.ref q_5, .ref k1_7, .ref k2_8])), (q_20, .inr (2, [.ref k1_21, .ref k2_22, .ref k3_23, .ref k4_24, .ref k5_25, .int 0, .int 0, .int 0, .int 0, .int 0])), (k1_21, .inr (0, [.ref k6_26, .ref k7_27, .ref k8_28, .ref k9_29, .int 0, .int 0])), (k6_26, .inl (cI, 1600, .inl (fun _ => 0))), (k2_22, .inl (cI, 9, .inl (fun _ => 0))), (k3_23, .inl (cI, 9, .inl (fun _ => 0))), (k4_24, .inl (cI, 3, .inl (fun _ => 0))), (k5_25, .inl (cI, 3, .inl (fun _ => 0))), (q_30, .inr (7, [.ref k1_31, .ref k2_32, .int 0, .int 0, .int 0, .int 0, .int 0])), (q_36, .inr (4, [.ref k1_37, .int 0, .ref k2_38, .ref k3_39, .ref k4_40])), (q_45, .inl (cI, 16, .inl (fun _ => 0)))] := hD
  refine sk_putF (ws' := [(x0, .inr (11, [.ref q_1, .ref q_3, .ref q_5, .ref q_6, .ref q_9, .ref q_10, .ref q_20, .ref q_30, .ref q_33, .ref q_36, .ref q_41, .ref q_42, .ref q_43, .ref q_44, .ref q_45, .int 0, .null, .long 0])), (q_1, .inr (10, [.ref k1_2, .int 0])), (k1_2, .inl (cI, 1600, .inl (fun _ => 0))), (q_3, .inr (10, [.ref k1_4, .int 0])), (k1_4, .inl (cI, 31, .inl (fun _ => 0))), (q_5, .inr (6, [.ref q_1, .int 0, .int 0, .int 0, .int (-1), .int 0, .int 0, .int (-1)])), (q_6, .inr (3, [.ref q_5, .ref k1_7, .ref k2_8])), (q_20, .inr (2, [.ref k1_21, .ref k2_22, .ref k3_23, .ref k4_24, .ref k5_25, .int 0, .int 0, .int 0, .int 0, .int 0])), (k1_21, .inr (0, [.ref k6_26, .ref k7_27, .ref k8_28, .ref k9_29, .int 0, .int 0])), (k6_26, .inl (cI, 1600, .inl (fun _ => 0))), (k2_22, .inl (cI, 9, .inl (fun _ => 0))), (k3_23, .inl (cI, 9, .inl (fun _ => 0))), (k4_24, .inl (cI, 3, .inl (fun _ => 0))), (k5_25, .inl (cI, 3, .inl (fun _ => 0))), (q_30, .inr (7, [.ref k1_31, .ref k2_32, .int 0, .int 0, .int 0, .int 0, .int 0])), (q_36, .inr (4, [.ref k1_37, .int 0, .ref k2_38, .ref k3_39, .ref k4_40])), (q_45, .inl (cI, 16, .inl (fun _ => 0)))]) (C := RX11) (T := TX11) (N := 18) (v := .ref q_45) hx hb hts inlX11 tyX11 tyX11_ok nmX11 hown hK hP hD hS 0 rfl rfl 14 (by decide) w_2_137 rfl hin rfl rfl rfl (Nat.le_of_ble_eq_true rfl) rfl dX11_init_178 (fun H locs hP hD hS => ?_)
  have hP := hP.sub (ws' := [(x0, .inr (11, [.ref q_1, .ref q_3, .ref q_5, .ref q_6, .ref q_9, .ref q_10, .ref q_20, .ref q_30, .ref q_33, .ref q_36, .ref q_41, .ref q_42, .ref q_43, .ref q_44, .ref q_45, .int 0, .null, .long 0])), (q_1, .inr (10, [.ref k1_2, .int 0])), (k1_2, .inl (cI, 1600, .inl (fun _ => 0))), (q_3, .inr (10, [.ref k1_4, .int 0])), (k1_4, .inl (cI, 31, .inl (fun _ => 0))), (q_5, .inr (6, [.ref q_1, .int 0, .int 0, .int 0, .int (-1), .int 0, .int 0, .int (-1)])), (q_6, .inr (3, [.ref q_5, .ref k1_7, .ref k2_8])), (q_20, .inr (2, [.ref k1_21, .ref k2_22, .ref k3_23, .ref k4_24, .ref k5_25, .int 0, .int 0, .int 0, .int 0, .int 0])), (k1_21, .inr (0, [.ref k6_26, .ref k7_27, .ref k8_28, .ref k9_29, .int 0, .int 0])), (k6_26, .inl (cI, 1600, .inl (fun _ => 0))), (k2_22, .inl (cI, 9, .inl (fun _ => 0))), (k3_23, .inl (cI, 9, .inl (fun _ => 0))), (k4_24, .inl (cI, 3, .inl (fun _ => 0))), (k5_25, .inl (cI, 3, .inl (fun _ => 0))), (q_30, .inr (7, [.ref k1_31, .ref k2_32, .int 0, .int 0, .int 0, .int 0, .int 0])), (q_36, .inr (4, [.ref k1_37, .int 0, .ref k2_38, .ref k3_39, .ref k4_40]))]) [0, 1, 2, 3, 4, 5, 6, 7, 8, 9, 10, 11, 12, 13, 14, 15] rfl
  have hD := hD.sub (ws' := [(x0, .inr (11, [.ref q_1, .ref q_3, .ref q_5, .ref q_6, .ref q_9, .ref q_10, .ref q_20, .ref q_30, .ref q_33, .ref q_36, .ref q_41, .ref q_42, .ref q_43, .ref q_44, .ref q_45, .int 0, .null, .long 0])), (q_1, .inr (10, [.ref k1_2, .int 0])), (k1_2, .inl (cI, 1600, .inl (fun _ => 0))), (q_3, .inr (10, [.ref k1_4, .int 0])), (k1_4, .inl (cI, 31, .inl (fun _ => 0))), (q_5, .inr (6, [.ref q_1, .int 0, .int 0, .int 0, .int (-1), .int 0, .int 0, .int (-1)])), (q_6, .inr (3, [.ref q_5, .ref k1_7, .ref k2_8])), (q_20, .inr (2, [.ref k1_21, .ref k2_22, .ref k3_23, .ref k4_24, .ref k5_25, .int 0, .int 0, .int 0, .int 0, .int 0])), (k1_21, .inr (0, [.ref k6_26, .ref k7_27, .ref k8_28, .ref k9_29, .int 0, .int 0])), (k6_26, .inl (cI, 1600, .inl (fun _ => 0))), (k2_22, .inl (cI, 9, .inl (fun _ => 0))), (k3_23, .inl (cI, 9, .inl (fun _ => 0))), (k4_24, .inl (cI, 3, .inl (fun _ => 0))), (k5_25, .inl (cI, 3, .inl (fun _ => 0))), (q_30, .inr (7, [.ref k1_31, .ref k2_32, .int 0, .int 0, .int 0, .int 0, .int 0])), (q_36, .inr (4, [.ref k1_37, .int 0, .ref k2_38, .ref k3_39, .ref k4_40]))]) [0, 1, 2, 3, 4, 5, 6, 7, 8, 9, 10, 11, 12, 13, 14, 15] (by decide) rfl
  refine lv_aload_n hx hb dX11_init_181 rfl (lv_at hl 0 rfl) ?_
  refine lv_iconst (v := 0) hx hb dX11_init_182 (by decide) ?_
  refine sk_put (ws' := [(x0, .inr (11, [.ref q_1, .ref q_3, .ref q_5, .ref q_6, .ref q_9, .ref q_10, .ref q_20, .ref q_30, .ref q_33, .ref q_36, .ref q_41, .ref q_42, .ref q_43, .ref q_44, .ref q_45, .int 0, .null, .long 0])), (q_1, .inr (10, [.ref k1_2, .int 0])), (k1_2, .inl (cI, 1600, .inl (fun _ => 0))), (q_3, .inr (10, [.ref k1_4, .int 0])), (k1_4, .inl (cI, 31, .inl (fun _ => 0))), (q_5, .inr (6, [.ref q_1, .int 0, .int 0, .int 0, .int (-1), .int 0, .int 0, .int (-1)])), (q_6, .inr (3, [.ref q_5, .ref k1_7, .ref k2_8])), (q_20, .inr (2, [.ref k1_21, .ref k2_22, .ref k3_23, .ref k4_24, .ref k5_25, .int 0, .int 0, .int 0, .int 0, .int 0])), (k1_21, .inr (0, [.ref k6_26, .ref k7_27, .ref k8_28, .ref k9_29, .int 0, .int 0])), (k6_26, .inl (cI, 1600, .inl (fun _ => 0))), (k2_22, .inl (cI, 9, .inl (fun _ => 0))), (k3_23, .inl (cI, 9, .inl (fun _ => 0))), (k4_24, .inl (cI, 3, .inl (fun _ => 0))), (k5_25, .inl (cI, 3, .inl (fun _ => 0))), (q_30, .inr (7, [.ref k1_31, .ref k2_32, .int 0, .int 0, .int 0, .int 0, .int 0])), (q_36, .inr (4, [.ref k1_37, .int 0, .ref k2_38, .ref k3_39, .ref k4_40]))]) (C := RX11) (T := TX11) (N := 18) (v := .int 0) hx hb hts inlX11 tyX11 tyX11_ok nmX11 hown hK hP hD hS 0 rfl rfl 15 (by decide) w_2_138 rfl rfl rfl (Nat.le_of_ble_eq_true rfl) rfl dX11_init_183 (fun H locs hP hD hS => ?_)
  refine lv_aload_n hx hb dX11_init_186 rfl (lv_at hl 0 rfl) ?_
  refine lv_bipush (v := 6) hx hb dX11_init_187 (by decide) ?_
  refine sk_newa (atype := .int) (ty := .int) (a0 := (6, .inl (fun _ => 0))) (cA := cI) (k1 := 124) (n1 := 12099) hx hb hts w_1_49 rfl (fun _ _ h => h) 0 rfl hK hP hD hS hA (fun _ => vp_cell_i _ _ _) (by decide) (by decide) (Nat.le_of_ble_eq_true rfl) (Nat.le_of_ble_eq_true rfl) (Nat.le_of_ble_eq_true rfl) (Nat.le_of_ble_eq_true rfl) (Nat.le_of_ble_eq_true rfl) dX11_init_189 (fun q_46 H hP hD hS => ?_)
  have hP : va_P D vwCl [(x0, .inr (11, [.ref q_1, .ref q_3, .ref q_5, .ref q_6, .ref q_9, .ref q_10, .ref q_20, .ref q_30, .ref q_33, .ref q_36, .ref q_41, .ref q_42, .ref q_43, .ref q_44, .ref q_45, .int 0, .null, .long 0])), (q_1, .inr (10, [.ref k1_2, .int 0])), (k1_2, .inl (cI, 1600, .inl (fun _ => 0))), (q_3, .inr (10, [.ref k1_4, .int 0])), (k1_4, .inl (cI, 31, .inl (fun _ => 0))), (q_5, .inr (6, [.ref q_1, .int 0, .int 0, .int 0, .int (-1), .int 0, .int 0, .int (-1)])), (q_6, .inr (3, [.ref q_5, .ref k1_7, .ref k2_8])), (q_20, .inr (2, [.ref k1_21, .ref k2_22, .ref k3_23, .ref k4_24, .ref k5_25, .int 0, .int 0, .int 0, .int 0, .int 0])), (k1_21, .inr (0, [.ref k6_26, .ref k7_27, .ref k8_28, .ref k9_29, .int 0, .int 0])), (k6_26, .inl (cI, 1600, .inl (fun _ => 0))), (k2_22, .inl (cI, 9, .inl (fun _ => 0))), (k3_23, .inl (cI, 9, .inl (fun _ => 0))), (k4_24, .inl (cI, 3, .inl (fun _ => 0))), (k5_25, .inl (cI, 3, .inl (fun _ => 0))), (q_30, .inr (7, [.ref k1_31, .ref k2_32, .int 0, .int 0, .int 0, .int 0, .int 0])), (q_36, .inr (4, [.ref k1_37, .int 0, .ref k2_38, .ref k3_39, .ref k4_40])), (q_46, .inl (cI, 6, .inl (fun _ => 0)))] H := hP
  have hD : va_D A [(x0, .inr (11, [.ref q_1, .ref q_3, .ref q_5, .ref q_6, .ref q_9, .ref q_10, .ref q_20, .ref q_30, .ref q_33, .ref q_36, .ref q_41, .ref q_42, .ref q_43, .ref q_44, .ref q_45, .int 0, .null, .long 0])), (q_1, .inr (10, [.ref k1_2, .int 0])), (k1_2, .inl (cI, 1600, .inl (fun _ => 0))), (q_3, .inr (10, [.ref k1_4, .int 0])), (k1_4, .inl (cI, 31, .inl (fun _ => 0))), (q_5, .inr (6, [.ref q_1, .int 0, .int 0, .int 0, .int (-1), .int 0, .int 0, .int (-1)])), (q_6, .inr (3, [.ref q_5, .ref k1_7, .ref k2_8])), (q_20, .inr (2, [.ref k1_21, .ref k2_22, .ref k3_23, .ref k4_24, .ref k5_25, .int 0, .int 0, .int 0, .int 0, .int 0])), (k1_21, .inr (0, [.ref k6_26, .ref k7_27, .ref k8_28, .ref k9_29, .int 0, .int 0])), (k6_26, .inl (cI, 1600, .inl (fun _ => 0))), (k2_22, .inl (cI, 9, .inl (fun _ => 0))), (k3_23, .inl (cI, 9, .inl (fun _ => 0))), (k4_24, .inl (cI, 3, .inl (fun _ => 0))), (k5_25, .inl (cI, 3, .inl (fun _ => 0))), (q_30, .inr (7, [.ref k1_31, .ref k2_32, .int 0, .int 0, .int 0, .int 0, .int 0])), (q_36, .inr (4, [.ref k1_37, .int 0, .ref k2_38, .ref k3_39, .ref k4_40])), (q_46, .inl (cI, 6, .inl (fun _ => 0)))] := hD
  refine sk_putF (ws' := [(x0, .inr (11, [.ref q_1, .ref q_3, .ref q_5, .ref q_6, .ref q_9, .ref q_10, .ref q_20, .ref q_30, .ref q_33, .ref q_36, .ref q_41, .ref q_42, .ref q_43, .ref q_44, .ref q_45, .int 0, .ref q_46, .long 0])), (q_1, .inr (10, [.ref k1_2, .int 0])), (k1_2, .inl (cI, 1600, .inl (fun _ => 0))), (q_3, .inr (10, [.ref k1_4, .int 0])), (k1_4, .inl (cI, 31, .inl (fun _ => 0))), (q_5, .inr (6, [.ref q_1, .int 0, .int 0, .int 0, .int (-1), .int 0, .int 0, .int (-1)])), (q_6, .inr (3, [.ref q_5, .ref k1_7, .ref k2_8])), (q_20, .inr (2, [.ref k1_21, .ref k2_22, .ref k3_23, .ref k4_24, .ref k5_25, .int 0, .int 0, .int 0, .int 0, .int 0])), (k1_21, .inr (0, [.ref k6_26, .ref k7_27, .ref k8_28, .ref k9_29, .int 0, .int 0])), (k6_26, .inl (cI, 1600, .inl (fun _ => 0))), (k2_22, .inl (cI, 9, .inl (fun _ => 0))), (k3_23, .inl (cI, 9, .inl (fun _ => 0))), (k4_24, .inl (cI, 3, .inl (fun _ => 0))), (k5_25, .inl (cI, 3, .inl (fun _ => 0))), (q_30, .inr (7, [.ref k1_31, .ref k2_32, .int 0, .int 0, .int 0, .int 0, .int 0])), (q_36, .inr (4, [.ref k1_37, .int 0, .ref k2_38, .ref k3_39, .ref k4_40])), (q_46, .inl (cI, 6, .inl (fun _ => 0)))]) (C := RX11) (T := TX11) (N := 18) (v := .ref q_46) hx hb hts inlX11 tyX11 tyX11_ok nmX11 hown hK hP hD hS 0 rfl rfl 16 (by decide) w_2_139 rfl hin rfl rfl rfl (Nat.le_of_ble_eq_true rfl) rfl dX11_init_191 (fun H locs hP hD hS => ?_)
  refine lv_aload_n hx hb dX11_init_194 rfl (lv_at hl 0 rfl) ?_
  refine lv_lconst (v := 1) hx hb dX11_init_195 (by decide) ?_
  refine sk_put (ws' := [(x0, .inr (11, [.ref q_1, .ref q_3, .ref q_5, .ref q_6, .ref q_9, .ref q_10, .ref q_20, .ref q_30, .ref q_33, .ref q_36, .ref q_41, .ref q_42, .ref q_43, .ref q_44, .ref q_45, .int 0, .ref q_46, .long 1])), (q_1, .inr (10, [.ref k1_2, .int 0])), (k1_2, .inl (cI, 1600, .inl (fun _ => 0))), (q_3, .inr (10, [.ref k1_4, .int 0])), (k1_4, .inl (cI, 31, .inl (fun _ => 0))), (q_5, .inr (6, [.ref q_1, .int 0, .int 0, .int 0, .int (-1), .int 0, .int 0, .int (-1)])), (q_6, .inr (3, [.ref q_5, .ref k1_7, .ref k2_8])), (q_20, .inr (2, [.ref k1_21, .ref k2_22, .ref k3_23, .ref k4_24, .ref k5_25, .int 0, .int 0, .int 0, .int 0, .int 0])), (k1_21, .inr (0, [.ref k6_26, .ref k7_27, .ref k8_28, .ref k9_29, .int 0, .int 0])), (k6_26, .inl (cI, 1600, .inl (fun _ => 0))), (k2_22, .inl (cI, 9, .inl (fun _ => 0))), (k3_23, .inl (cI, 9, .inl (fun _ => 0))), (k4_24, .inl (cI, 3, .inl (fun _ => 0))), (k5_25, .inl (cI, 3, .inl (fun _ => 0))), (q_30, .inr (7, [.ref k1_31, .ref k2_32, .int 0, .int 0, .int 0, .int 0, .int 0])), (q_36, .inr (4, [.ref k1_37, .int 0, .ref k2_38, .ref k3_39, .ref k4_40])), (q_46, .inl (cI, 6, .inl (fun _ => 0)))]) (C := RX11) (T := TX11) (N := 18) (v := .long 1) hx hb hts inlX11 tyX11 tyX11_ok nmX11 hown hK hP hD hS 0 rfl rfl 17 (by decide) w_2_140 rfl rfl rfl (Nat.le_of_ble_eq_true rfl) rfl dX11_init_196 (fun H locs hP hD hS => ?_)
  exact sk_vret hx hb hr hlocks hK hP hD hS (⟨fun k => match k with | 0 => q_1 | 1 => q_3 | 2 => q_5 | 3 => q_6 | 4 => q_9 | 5 => q_10 | 6 => q_20 | 7 => q_30 | 8 => q_33 | 9 => q_36 | 10 => q_41 | 11 => q_42 | 12 => q_43 | 13 => q_44 | 14 => q_45 | 16 => q_46 | 20 => k1_2 | 21 => k1_4 | 22 => k1_7 | 23 => k2_8 | 24 => k1_21 | 25 => k2_22 | 26 => k3_23 | 27 => k4_24 | 28 => k5_25 | 29 => k6_26 | 30 => k7_27 | 31 => k8_28 | 32 => k9_29 | 33 => k1_31 | 34 => k2_32 | 35 => k1_37 | 36 => k2_38 | 37 => k3_39 | 38 => k4_40 | _ => 0, rfl⟩) (Nat.le_of_ble_eq_true rfl) (Nat.le_of_ble_eq_true rfl) dX11_init_199
end
section
def sp_end (n : Int32) : Int32 := if n < 0 then 0 else if n ≤ 0 then 1 else 0
def sp_fault (w : Int32) : Int32 := if w = 0 then 0 else -1
def sp_has (w : Int32) : Int32 := if w = 0 then 0 else if w = 1 then 0 else if w = 2 then 0 else if w = 3 then 0 else if w = 4 then 0 else if w = 5 then 0 else if w = 6 then 0 else -1
def sp_seed (n : Int32) : Int32 := if 0 ≤ n then 1 else 0
def sp_status (w : Int32) : Int32 := if w < 0 then -1 else if 6 ≤ w then -1 else 0
theorem dX11_isDay_0 : decode cX11_isDay 0 = .ok (.iload_n 1, 1) := by decide +kernel
theorem dX11_isDay_1 : decode cX11_isDay 1 = .ok (.ifCond .lt 18, 3) := by decide +kernel
theorem dX11_isDay_19 : decode cX11_isDay 19 = .ok (.iconst 0, 1) := by decide +kernel
theorem dX11_isDay_20 : decode cX11_isDay 20 = .ok (.ireturn, 1) := by decide +kernel
theorem dX11_isDay_4 : decode cX11_isDay 4 = .ok (.iload_n 1, 1) := by decide +kernel
theorem dX11_isDay_5 : decode cX11_isDay 5 = .ok (.aload_n 0, 1) := by decide +kernel
theorem dX11_isDay_6 : decode cX11_isDay 6 = .ok (.getfield 59, 3) := by decide +kernel
theorem dX11_isDay_9 : decode cX11_isDay 9 = .ok (.getfield 144, 3) := by decide +kernel
theorem dX11_isDay_12 : decode cX11_isDay 12 = .ok (.if_icmp .ge 7, 3) := by decide +kernel
theorem w_2_1 : (Cond.fieldLink RX11 144 "SameKeeper$State" "days" "I") ∈ wsL_law := sk_mem (ck_2 _ (List.mem_of_getElem? (i := 1) rfl)) rfl
theorem w_3_193 : (Cond.code yX11_isDay cX11_isDay 2 (some .boolean)) ∈ wsL_law := sk_mem (ck_3 _ (List.mem_of_getElem? (i := 193) rfl)) rfl
set_option maxHeartbeats 4000000 in
set_option maxRecDepth 100000 in
theorem c_x_isDay (l : Launch) (D : va_G) (cI cJ cC cZ cS : ClassId) (x0 : Nat) (q : Nat → Nat) (d : Int32)  : skM l yX11_isDay cX11_isDay 2 (some .boolean) 0 0 0 0 D (skT cI cJ cC cZ cS) [.ref x0, .int d] [(x0, .inr (11, [.ref (q 0), .ref (q 1), .ref (q 2), .ref (q 3), .ref (q 4), .ref (q 5), .ref (q 6), .ref (q 7), .ref (q 8), .ref (q 9), .ref (q 10), .ref (q 11), .ref (q 12), .ref (q 13), .ref (q 14), .int 0, .ref (q 16), .long 1])), (q 7, .inr (7, [.ref (q 33), .ref (q 34), .int 0, .int 0, .int 0, .int 0, .int 0]))] (skI D (skT cI cJ cC cZ cS) (fun (r : Int32) (u : va_W) => r = 0 ∧ u = [(x0, .inr (11, [.ref (q 0), .ref (q 1), .ref (q 2), .ref (q 3), .ref (q 4), .ref (q 5), .ref (q 6), .ref (q 7), .ref (q 8), .ref (q 9), .ref (q 10), .ref (q 11), .ref (q 12), .ref (q 13), .ref (q 14), .int 0, .ref (q 16), .long 1])), (q 7, .inr (7, [.ref (q 33), .ref (q 34), .int 0, .int 0, .int 0, .int 0, .int 0]))])) := by
  refine skM_of (by decide) (Nat.le_of_ble_eq_true rfl) ?_
  intro p e s m below meth c A ls E hP hD hl
  obtain ⟨hx, hb, hr, hml, hlocks, hin, hown, hts, hK, hA⟩ := E
  have hown : s.vm.findClass RX11 = some m.cls := hown
  have hS : va_S A s.heap s.heap [] := va_S.rf
  have hl : lv_has ls 2 [(0, .ref x0), (1, .int d)] := hl
  refine lv_iload_n hx hb dX11_isDay_0 rfl (lv_at hl 1 rfl) ?_
  refine lv_if_lt (tgt := 19) hx hb dX11_isDay_1 (by decide) (fun c_1 => ?_) (fun c_1 => ?_)
  · refine lv_iconst (v := 0) hx hb dX11_isDay_19 (by decide) ?_
    exact sk_iret hx hb hr rfl hlocks hK hP hD hS (⟨rfl, rfl⟩) (Nat.le_of_ble_eq_true rfl) (Nat.le_of_ble_eq_true rfl) dX11_isDay_20
  · refine lv_iload_n hx hb dX11_isDay_4 rfl (lv_at hl 1 rfl) ?_
    refine lv_aload_n hx hb dX11_isDay_5 rfl (lv_at hl 0 rfl) ?_
    refine sk_get (v := .ref (q 7)) (C := RX11) (T := TX11) (N := 18) hx hb hts inlX11 hown hK hP 0 rfl rfl 7 (by decide) w_2_130 rfl dX11_isDay_6 ?_
    refine sk_get (v := .int 0) (C := RX7) (T := TX7) (N := 7) hx hb hts inlX7 hown hK hP 1 rfl rfl 2 (by decide) w_2_1 rfl dX11_isDay_9 ?_
    refine lv_icmp_ge (tgt := 19) hx hb dX11_isDay_12 (by decide) (fun c_2 => ?_) (fun c => absurd (Int32.not_lt.mp c_1) c)
    refine lv_iconst (v := 0) hx hb dX11_isDay_19 (by decide) ?_
    exact sk_iret hx hb hr rfl hlocks hK hP hD hS (⟨rfl, rfl⟩) (Nat.le_of_ble_eq_true rfl) (Nat.le_of_ble_eq_true rfl) dX11_isDay_20
theorem dX11_isLocked_0 : decode cX11_isLocked 0 = .ok (.aload_n 0, 1) := by decide +kernel
theorem dX11_isLocked_1 : decode cX11_isLocked 1 = .ok (.getfield 59, 3) := by decide +kernel
theorem dX11_isLocked_4 : decode cX11_isLocked 4 = .ok (.getfield 144, 3) := by decide +kernel
theorem dX11_isLocked_7 : decode cX11_isLocked 7 = .ok (.ifCond .le 7, 3) := by decide +kernel
theorem dX11_isLocked_14 : decode cX11_isLocked 14 = .ok (.iconst 0, 1) := by decide +kernel
theorem dX11_isLocked_15 : decode cX11_isLocked 15 = .ok (.ireturn, 1) := by decide +kernel
theorem w_4_42 : (Cond.code yX11_isLocked cX11_isLocked 1 (some .boolean)) ∈ wsL_law := sk_mem (ck_4 _ (List.mem_of_getElem? (i := 42) rfl)) rfl
set_option maxHeartbeats 4000000 in
set_option maxRecDepth 100000 in
theorem c_x_isLocked (l : Launch) (D : va_G) (cI cJ cC cZ cS : ClassId) (x0 : Nat) (q : Nat → Nat)  : skM l yX11_isLocked cX11_isLocked 1 (some .boolean) 0 0 0 0 D (skT cI cJ cC cZ cS) [.ref x0] [(x0, .inr (11, [.ref (q 0), .ref (q 1), .ref (q 2), .ref (q 3), .ref (q 4), .ref (q 5), .ref (q 6), .ref (q 7), .ref (q 8), .ref (q 9), .ref (q 10), .ref (q 11), .ref (q 12), .ref (q 13), .ref (q 14), .int 0, .ref (q 16), .long 1])), (q 7, .inr (7, [.ref (q 33), .ref (q 34), .int 0, .int 0, .int 0, .int 0, .int 0]))] (skI D (skT cI cJ cC cZ cS) (fun (r : Int32) (u : va_W) => r = 0 ∧ u = [(x0, .inr (11, [.ref (q 0), .ref (q 1), .ref (q 2), .ref (q 3), .ref (q 4), .ref (q 5), .ref (q 6), .ref (q 7), .ref (q 8), .ref (q 9), .ref (q 10), .ref (q 11), .ref (q 12), .ref (q 13), .ref (q 14), .int 0, .ref (q 16), .long 1])), (q 7, .inr (7, [.ref (q 33), .ref (q 34), .int 0, .int 0, .int 0, .int 0, .int 0]))])) := by
  refine skM_of (by decide) (Nat.le_of_ble_eq_true rfl) ?_
  intro p e s m below meth c A ls E hP hD hl
  obtain ⟨hx, hb, hr, hml, hlocks, hin, hown, hts, hK, hA⟩ := E
  have hown : s.vm.findClass RX11 = some m.cls := hown
  have hS : va_S A s.heap s.heap [] := va_S.rf
  have hl : lv_has ls 1 [(0, .ref x0)] := hl
  refine lv_aload_n hx hb dX11_isLocked_0 rfl (lv_at hl 0 rfl) ?_
  refine sk_get (v := .ref (q 7)) (C := RX11) (T := TX11) (N := 18) hx hb hts inlX11 hown hK hP 0 rfl rfl 7 (by decide) w_2_130 rfl dX11_isLocked_1 ?_
  refine sk_get (v := .int 0) (C := RX7) (T := TX7) (N := 7) hx hb hts inlX7 hown hK hP 1 rfl rfl 2 (by decide) w_2_1 rfl dX11_isLocked_4 ?_
  refine lv_if_le (tgt := 14) hx hb dX11_isLocked_7 (by decide) (fun c_1 => ?_) (fun c => absurd c (by decide))
  refine lv_iconst (v := 0) hx hb dX11_isLocked_14 (by decide) ?_
  exact sk_iret hx hb hr rfl hlocks hK hP hD hS (⟨rfl, rfl⟩) (Nat.le_of_ble_eq_true rfl) (Nat.le_of_ble_eq_true rfl) dX11_isLocked_15
theorem dX11_refuse_0 : decode cX11_refuse 0 = .ok (.aload_n 0, 1) := by decide +kernel
theorem dX11_refuse_1 : decode cX11_refuse 1 = .ok (.getfield 103, 3) := by decide +kernel
theorem dX11_refuse_4 : decode cX11_refuse 4 = .ok (.iload_n 1, 1) := by decide +kernel
theorem dX11_refuse_5 : decode cX11_refuse 5 = .ok (.dup2, 1) := by decide +kernel
theorem dX11_refuse_6 : decode cX11_refuse 6 = .ok (.iaload, 1) := by decide +kernel
theorem dX11_refuse_7 : decode cX11_refuse 7 = .ok (.iconst 1, 1) := by decide +kernel
theorem dX11_refuse_8 : decode cX11_refuse 8 = .ok (.iadd, 1) := by decide +kernel
theorem dX11_refuse_9 : decode cX11_refuse 9 = .ok (.iastore, 1) := by decide +kernel
theorem dX11_refuse_10 : decode cX11_refuse 10 = .ok (.iconst (-1), 1) := by decide +kernel
theorem dX11_refuse_11 : decode cX11_refuse 11 = .ok (.ireturn, 1) := by decide +kernel
theorem w_2_185 : (Cond.code yX11_refuse cX11_refuse 2 (some .int)) ∈ wsL_law := sk_mem (ck_2 _ (List.mem_of_getElem? (i := 185) rfl)) rfl
set_option maxHeartbeats 4000000 in
set_option maxRecDepth 100000 in
theorem c_x_refuse (l : Launch) (D : va_G) (cI cJ cC cZ cS : ClassId) (x0 : Nat) (q : Nat → Nat) (w : Int32) (f : Nat → Int32) (hw : vp_in w 6) : skM l yX11_refuse cX11_refuse 2 (some .int) 0 0 0 0 D (skT cI cJ cC cZ cS) [.ref x0, .int w] [(x0, .inr (11, [.ref (q 0), .ref (q 1), .ref (q 2), .ref (q 3), .ref (q 4), .ref (q 5), .ref (q 6), .ref (q 7), .ref (q 8), .ref (q 9), .ref (q 10), .ref (q 11), .ref (q 12), .ref (q 13), .ref (q 14), .int 0, .ref (q 16), .long 1])), (q 16, .inl (cI, 6, .inl f))] (skI D (skT cI cJ cC cZ cS) (fun (r : Int32) (u : va_W) => ∃ (f2 : Nat → Int32), r = -1 ∧ u = [(x0, .inr (11, [.ref (q 0), .ref (q 1), .ref (q 2), .ref (q 3), .ref (q 4), .ref (q 5), .ref (q 6), .ref (q 7), .ref (q 8), .ref (q 9), .ref (q 10), .ref (q 11), .ref (q 12), .ref (q 13), .ref (q 14), .int 0, .ref (q 16), .long 1])), (q 16, .inl (cI, 6, .inl f2))])) := by
  refine skM_of (by decide) (Nat.le_of_ble_eq_true rfl) ?_
  intro p e s m below meth c A ls E hP hD hl
  obtain ⟨hx, hb, hr, hml, hlocks, hin, hown, hts, hK, hA⟩ := E
  have hown : s.vm.findClass RX11 = some m.cls := hown
  have hS : va_S A s.heap s.heap [] := va_S.rf
  have hl : lv_has ls 2 [(0, .ref x0), (1, .int w)] := hl
  refine lv_aload_n hx hb dX11_refuse_0 rfl (lv_at hl 0 rfl) ?_
  refine sk_get (v := .ref (q 16)) (C := RX11) (T := TX11) (N := 18) hx hb hts inlX11 hown hK hP 0 rfl rfl 16 (by decide) w_2_139 rfl dX11_refuse_1 ?_
  refine lv_iload_n hx hb dX11_refuse_4 rfl (lv_at hl 1 rfl) ?_
  refine lv_dup2_11 hx hb dX11_refuse_5 rfl rfl ?_
  refine va_iald hx hb hK.1 hP 1 0 rfl rfl hw dX11_refuse_6 ?_
  refine lv_topi (fun v_1 ev_1 => ?_)
  refine lv_iconst (v := 1) hx hb dX11_refuse_7 (by decide) ?_
  refine lv_iadd hx hb dX11_refuse_8 ?_
  refine lv_topi (fun v_2 ev_2 => ?_)
  refine sk_iastO (ws' := fun f_3 => [(x0, .inr (11, [.ref (q 0), .ref (q 1), .ref (q 2), .ref (q 3), .ref (q 4), .ref (q 5), .ref (q 6), .ref (q 7), .ref (q 8), .ref (q 9), .ref (q 10), .ref (q 11), .ref (q 12), .ref (q 13), .ref (q 14), .int 0, .ref (q 16), .long 1])), (q 16, .inl (cI, 6, .inl f_3))]) hx hb hK hP hD hS 1 0 rfl rfl hw (fun _ => rfl) dX11_refuse_9 (fun f_3 H locs hP hD hS => ?_)
  refine lv_iconst (v := (-1)) hx hb dX11_refuse_10 (by decide) ?_
  exact sk_iret hx hb hr rfl hlocks hK hP hD hS (⟨f_3, rfl, rfl⟩) (Nat.le_of_ble_eq_true rfl) (Nat.le_of_ble_eq_true rfl) dX11_refuse_11
theorem dX11_refuseIt_0 : decode cX11_refuseIt 0 = .ok (.aload_n 0, 1) := by decide +kernel
theorem dX11_refuseIt_1 : decode cX11_refuseIt 1 = .ok (.getfield 103, 3) := by decide +kernel
theorem dX11_refuseIt_4 : decode cX11_refuseIt 4 = .ok (.iload_n 1, 1) := by decide +kernel
theorem dX11_refuseIt_5 : decode cX11_refuseIt 5 = .ok (.dup2, 1) := by decide +kernel
theorem dX11_refuseIt_6 : decode cX11_refuseIt 6 = .ok (.iaload, 1) := by decide +kernel
theorem dX11_refuseIt_7 : decode cX11_refuseIt 7 = .ok (.iconst 1, 1) := by decide +kernel
theorem dX11_refuseIt_8 : decode cX11_refuseIt 8 = .ok (.iadd, 1) := by decide +kernel
theorem dX11_refuseIt_9 : decode cX11_refuseIt 9 = .ok (.iastore, 1) := by decide +kernel
theorem dX11_refuseIt_10 : decode cX11_refuseIt 10 = .ok (.iconst 0, 1) := by decide +kernel
theorem dX11_refuseIt_11 : decode cX11_refuseIt 11 = .ok (.ireturn, 1) := by decide +kernel
theorem w_2_201 : (Cond.code yX11_refuseIt cX11_refuseIt 2 (some .boolean)) ∈ wsL_law := sk_mem (ck_2 _ (List.mem_of_getElem? (i := 201) rfl)) rfl
set_option maxHeartbeats 4000000 in
set_option maxRecDepth 100000 in
theorem c_x_refuseIt (l : Launch) (D : va_G) (cI cJ cC cZ cS : ClassId) (x0 : Nat) (q : Nat → Nat) (w : Int32) (f : Nat → Int32) (hw : vp_in w 6) : skM l yX11_refuseIt cX11_refuseIt 2 (some .boolean) 0 0 0 0 D (skT cI cJ cC cZ cS) [.ref x0, .int w] [(x0, .inr (11, [.ref (q 0), .ref (q 1), .ref (q 2), .ref (q 3), .ref (q 4), .ref (q 5), .ref (q 6), .ref (q 7), .ref (q 8), .ref (q 9), .ref (q 10), .ref (q 11), .ref (q 12), .ref (q 13), .ref (q 14), .int 0, .ref (q 16), .long 1])), (q 16, .inl (cI, 6, .inl f))] (skI D (skT cI cJ cC cZ cS) (fun (r : Int32) (u : va_W) => ∃ (f2 : Nat → Int32), r = 0 ∧ u = [(x0, .inr (11, [.ref (q 0), .ref (q 1), .ref (q 2), .ref (q 3), .ref (q 4), .ref (q 5), .ref (q 6), .ref (q 7), .ref (q 8), .ref (q 9), .ref (q 10), .ref (q 11), .ref (q 12), .ref (q 13), .ref (q 14), .int 0, .ref (q 16), .long 1])), (q 16, .inl (cI, 6, .inl f2))])) := by
  refine skM_of (by decide) (Nat.le_of_ble_eq_true rfl) ?_
  intro p e s m below meth c A ls E hP hD hl
  obtain ⟨hx, hb, hr, hml, hlocks, hin, hown, hts, hK, hA⟩ := E
  have hown : s.vm.findClass RX11 = some m.cls := hown
  have hS : va_S A s.heap s.heap [] := va_S.rf
  have hl : lv_has ls 2 [(0, .ref x0), (1, .int w)] := hl
  refine lv_aload_n hx hb dX11_refuseIt_0 rfl (lv_at hl 0 rfl) ?_
  refine sk_get (v := .ref (q 16)) (C := RX11) (T := TX11) (N := 18) hx hb hts inlX11 hown hK hP 0 rfl rfl 16 (by decide) w_2_139 rfl dX11_refuseIt_1 ?_
  refine lv_iload_n hx hb dX11_refuseIt_4 rfl (lv_at hl 1 rfl) ?_
  refine lv_dup2_11 hx hb dX11_refuseIt_5 rfl rfl ?_
  refine va_iald hx hb hK.1 hP 1 0 rfl rfl hw dX11_refuseIt_6 ?_
  refine lv_topi (fun v_1 ev_1 => ?_)
  refine lv_iconst (v := 1) hx hb dX11_refuseIt_7 (by decide) ?_
  refine lv_iadd hx hb dX11_refuseIt_8 ?_
  refine lv_topi (fun v_2 ev_2 => ?_)
  refine sk_iastO (ws' := fun f_3 => [(x0, .inr (11, [.ref (q 0), .ref (q 1), .ref (q 2), .ref (q 3), .ref (q 4), .ref (q 5), .ref (q 6), .ref (q 7), .ref (q 8), .ref (q 9), .ref (q 10), .ref (q 11), .ref (q 12), .ref (q 13), .ref (q 14), .int 0, .ref (q 16), .long 1])), (q 16, .inl (cI, 6, .inl f_3))]) hx hb hK hP hD hS 1 0 rfl rfl hw (fun _ => rfl) dX11_refuseIt_9 (fun f_3 H locs hP hD hS => ?_)
  refine lv_iconst (v := 0) hx hb dX11_refuseIt_10 (by decide) ?_
  exact sk_iret hx hb hr rfl hlocks hK hP hD hS (⟨f_3, rfl, rfl⟩) (Nat.le_of_ble_eq_true rfl) (Nat.le_of_ble_eq_true rfl) dX11_refuseIt_11
theorem dX10_add_0 : decode cX10_add 0 = .ok (.aload_n 0, 1) := by decide +kernel
theorem dX10_add_1 : decode cX10_add 1 = .ok (.getfield 7, 3) := by decide +kernel
theorem dX10_add_4 : decode cX10_add 4 = .ok (.aload_n 0, 1) := by decide +kernel
theorem dX10_add_5 : decode cX10_add 5 = .ok (.getfield 19, 3) := by decide +kernel
theorem dX10_add_8 : decode cX10_add 8 = .ok (.arraylength, 1) := by decide +kernel
theorem dX10_add_9 : decode cX10_add 9 = .ok (.if_icmp .ge 27, 3) := by decide +kernel
theorem dX10_add_12 : decode cX10_add 12 = .ok (.aload_n 0, 1) := by decide +kernel
theorem dX10_add_13 : decode cX10_add 13 = .ok (.getfield 19, 3) := by decide +kernel
theorem dX10_add_16 : decode cX10_add 16 = .ok (.aload_n 0, 1) := by decide +kernel
theorem dX10_add_17 : decode cX10_add 17 = .ok (.getfield 7, 3) := by decide +kernel
theorem dX10_add_20 : decode cX10_add 20 = .ok (.iload_n 1, 1) := by decide +kernel
theorem dX10_add_21 : decode cX10_add 21 = .ok (.sipush 255, 3) := by decide +kernel
theorem dX10_add_24 : decode cX10_add 24 = .ok (.iand, 1) := by decide +kernel
theorem dX10_add_25 : decode cX10_add 25 = .ok (.iastore, 1) := by decide +kernel
theorem dX10_add_26 : decode cX10_add 26 = .ok (.aload_n 0, 1) := by decide +kernel
theorem dX10_add_27 : decode cX10_add 27 = .ok (.dup, 1) := by decide +kernel
theorem dX10_add_28 : decode cX10_add 28 = .ok (.getfield 7, 3) := by decide +kernel
theorem dX10_add_31 : decode cX10_add 31 = .ok (.iconst 1, 1) := by decide +kernel
theorem dX10_add_32 : decode cX10_add 32 = .ok (.iadd, 1) := by decide +kernel
theorem dX10_add_33 : decode cX10_add 33 = .ok (.putfield 7, 3) := by decide +kernel
theorem dX10_add_36 : decode cX10_add 36 = .ok (.return_, 1) := by decide +kernel
theorem w_2_193 : (Cond.code yX10_add cX10_add 2 none) ∈ wsL_law := sk_mem (ck_2 _ (List.mem_of_getElem? (i := 193) rfl)) rfl
set_option maxHeartbeats 4000000 in
set_option maxRecDepth 100000 in
theorem c_Tape_add_1600 (l : Launch) (D : va_G) (cI cJ cC cZ cS : ClassId) (h0 : Nat) (k1 : Nat) (ln : Int32) (o : Int32) (f : Nat → Int32) (hl1 : ¬ (1600 : Int32) ≤ ln) (hv1 : vp_in ln 1600) : skM l yX10_add cX10_add 2 none 0 0 0 0 D (skT cI cJ cC cZ cS) [.ref h0, .int o] [(h0, .inr (10, [.ref k1, .int ln])), (k1, .inl (cI, 1600, .inl f))] (skV D (skT cI cJ cC cZ cS) (fun (u : va_W) => ∃ (f2 : Nat → Int32), u = [(h0, .inr (10, [.ref k1, .int (ln + 1)])), (k1, .inl (cI, 1600, .inl f2))])) := by
  refine skM_of (by decide) (Nat.le_of_ble_eq_true rfl) ?_
  intro p e s m below meth c A ls E hP hD hl
  obtain ⟨hx, hb, hr, hml, hlocks, hin, hown, hts, hK, hA⟩ := E
  have hown : s.vm.findClass RX10 = some m.cls := hown
  have hS : va_S A s.heap s.heap [] := va_S.rf
  have hl : lv_has ls 2 [(0, .ref h0), (1, .int o)] := hl
  refine lv_aload_n hx hb dX10_add_0 rfl (lv_at hl 0 rfl) ?_
  refine sk_get (v := .int ln) (C := RX10) (T := TX10) (N := 2) hx hb hts inlX10 hown hK hP 0 rfl rfl 1 (by decide) w_1_41 rfl dX10_add_1 ?_
  refine lv_aload_n hx hb dX10_add_4 rfl (lv_at hl 0 rfl) ?_
  refine sk_get (v := .ref k1) (C := RX10) (T := TX10) (N := 2) hx hb hts inlX10 hown hK hP 0 rfl rfl 0 (by decide) w_1_39 rfl dX10_add_5 ?_
  refine va_alen (v := 1600) hx hb hK.1 hP 1 0 rfl rfl rfl dX10_add_8 ?_
  refine lv_icmp_ge (tgt := 36) hx hb dX10_add_9 (by decide) (fun c => absurd c (hl1)) (fun c_1 => ?_)
  refine lv_aload_n hx hb dX10_add_12 rfl (lv_at hl 0 rfl) ?_
  refine sk_get (v := .ref k1) (C := RX10) (T := TX10) (N := 2) hx hb hts inlX10 hown hK hP 0 rfl rfl 0 (by decide) w_1_39 rfl dX10_add_13 ?_
  refine lv_aload_n hx hb dX10_add_16 rfl (lv_at hl 0 rfl) ?_
  refine sk_get (v := .int ln) (C := RX10) (T := TX10) (N := 2) hx hb hts inlX10 hown hK hP 0 rfl rfl 1 (by decide) w_1_41 rfl dX10_add_17 ?_
  refine lv_iload_n hx hb dX10_add_20 rfl (lv_at hl 1 rfl) ?_
  refine lv_sipush (v := 255) hx hb dX10_add_21 (by decide) ?_
  refine lv_iand hx hb dX10_add_24 ?_
  refine lv_topi (fun v_2 ev_2 => ?_)
  refine sk_iastO (ws' := fun f_3 => [(h0, .inr (10, [.ref k1, .int ln])), (k1, .inl (cI, 1600, .inl f_3))]) hx hb hK hP hD hS 1 0 rfl rfl hv1 (fun _ => rfl) dX10_add_25 (fun f_3 H locs hP hD hS => ?_)
  refine lv_aload_n hx hb dX10_add_26 rfl (lv_at hl 0 rfl) ?_
  refine lv_dup hx hb dX10_add_27 rfl ?_
  refine sk_get (v := .int ln) (C := RX10) (T := TX10) (N := 2) hx hb hts inlX10 hown hK hP 0 rfl rfl 1 (by decide) w_1_41 rfl dX10_add_28 ?_
  refine lv_iconst (v := 1) hx hb dX10_add_31 (by decide) ?_
  refine lv_iadd hx hb dX10_add_32 ?_
  refine lv_topi (fun v_4 ev_4 => ?_)
  refine sk_put (ws' := [(h0, .inr (10, [.ref k1, .int v_4])), (k1, .inl (cI, 1600, .inl f_3))]) (C := RX10) (T := TX10) (N := 2) (v := .int v_4) hx hb hts inlX10 tyX10 tyX10_ok nmX10 hown hK hP hD hS 0 rfl rfl 1 (by decide) w_1_41 rfl rfl rfl (Nat.le_of_ble_eq_true rfl) rfl dX10_add_33 (fun H locs hP hD hS => ?_)
  subst ev_4
  exact sk_vret hx hb hr hlocks hK hP hD hS (⟨f_3, rfl⟩) (Nat.le_of_ble_eq_true rfl) (Nat.le_of_ble_eq_true rfl) dX10_add_36
set_option maxHeartbeats 4000000 in
set_option maxRecDepth 100000 in
theorem c_Tape_add_31 (l : Launch) (D : va_G) (cI cJ cC cZ cS : ClassId) (h0 : Nat) (k1 : Nat) (ln : Int32) (o : Int32) (f : Nat → Int32) (hl1 : ¬ (31 : Int32) ≤ ln) (hv1 : vp_in ln 31) : skM l yX10_add cX10_add 2 none 0 0 0 0 D (skT cI cJ cC cZ cS) [.ref h0, .int o] [(h0, .inr (10, [.ref k1, .int ln])), (k1, .inl (cI, 31, .inl f))] (skV D (skT cI cJ cC cZ cS) (fun (u : va_W) => ∃ (f2 : Nat → Int32), u = [(h0, .inr (10, [.ref k1, .int (ln + 1)])), (k1, .inl (cI, 31, .inl f2))])) := by
  refine skM_of (by decide) (Nat.le_of_ble_eq_true rfl) ?_
  intro p e s m below meth c A ls E hP hD hl
  obtain ⟨hx, hb, hr, hml, hlocks, hin, hown, hts, hK, hA⟩ := E
  have hown : s.vm.findClass RX10 = some m.cls := hown
  have hS : va_S A s.heap s.heap [] := va_S.rf
  have hl : lv_has ls 2 [(0, .ref h0), (1, .int o)] := hl
  refine lv_aload_n hx hb dX10_add_0 rfl (lv_at hl 0 rfl) ?_
  refine sk_get (v := .int ln) (C := RX10) (T := TX10) (N := 2) hx hb hts inlX10 hown hK hP 0 rfl rfl 1 (by decide) w_1_41 rfl dX10_add_1 ?_
  refine lv_aload_n hx hb dX10_add_4 rfl (lv_at hl 0 rfl) ?_
  refine sk_get (v := .ref k1) (C := RX10) (T := TX10) (N := 2) hx hb hts inlX10 hown hK hP 0 rfl rfl 0 (by decide) w_1_39 rfl dX10_add_5 ?_
  refine va_alen (v := 31) hx hb hK.1 hP 1 0 rfl rfl rfl dX10_add_8 ?_
  refine lv_icmp_ge (tgt := 36) hx hb dX10_add_9 (by decide) (fun c => absurd c (hl1)) (fun c_1 => ?_)
  refine lv_aload_n hx hb dX10_add_12 rfl (lv_at hl 0 rfl) ?_
  refine sk_get (v := .ref k1) (C := RX10) (T := TX10) (N := 2) hx hb hts inlX10 hown hK hP 0 rfl rfl 0 (by decide) w_1_39 rfl dX10_add_13 ?_
  refine lv_aload_n hx hb dX10_add_16 rfl (lv_at hl 0 rfl) ?_
  refine sk_get (v := .int ln) (C := RX10) (T := TX10) (N := 2) hx hb hts inlX10 hown hK hP 0 rfl rfl 1 (by decide) w_1_41 rfl dX10_add_17 ?_
  refine lv_iload_n hx hb dX10_add_20 rfl (lv_at hl 1 rfl) ?_
  refine lv_sipush (v := 255) hx hb dX10_add_21 (by decide) ?_
  refine lv_iand hx hb dX10_add_24 ?_
  refine lv_topi (fun v_2 ev_2 => ?_)
  refine sk_iastO (ws' := fun f_3 => [(h0, .inr (10, [.ref k1, .int ln])), (k1, .inl (cI, 31, .inl f_3))]) hx hb hK hP hD hS 1 0 rfl rfl hv1 (fun _ => rfl) dX10_add_25 (fun f_3 H locs hP hD hS => ?_)
  refine lv_aload_n hx hb dX10_add_26 rfl (lv_at hl 0 rfl) ?_
  refine lv_dup hx hb dX10_add_27 rfl ?_
  refine sk_get (v := .int ln) (C := RX10) (T := TX10) (N := 2) hx hb hts inlX10 hown hK hP 0 rfl rfl 1 (by decide) w_1_41 rfl dX10_add_28 ?_
  refine lv_iconst (v := 1) hx hb dX10_add_31 (by decide) ?_
  refine lv_iadd hx hb dX10_add_32 ?_
  refine lv_topi (fun v_4 ev_4 => ?_)
  refine sk_put (ws' := [(h0, .inr (10, [.ref k1, .int v_4])), (k1, .inl (cI, 31, .inl f_3))]) (C := RX10) (T := TX10) (N := 2) (v := .int v_4) hx hb hts inlX10 tyX10 tyX10_ok nmX10 hown hK hP hD hS 0 rfl rfl 1 (by decide) w_1_41 rfl rfl rfl (Nat.le_of_ble_eq_true rfl) rfl dX10_add_33 (fun H locs hP hD hS => ?_)
  subst ev_4
  exact sk_vret hx hb hr hlocks hK hP hD hS (⟨f_3, rfl⟩) (Nat.le_of_ble_eq_true rfl) (Nat.le_of_ble_eq_true rfl) dX10_add_36
theorem dX10_addNumber_0 : decode cX10_addNumber 0 = .ok (.aload_n 0, 1) := by decide +kernel
theorem dX10_addNumber_1 : decode cX10_addNumber 1 = .ok (.iload_n 1, 1) := by decide +kernel
theorem dX10_addNumber_2 : decode cX10_addNumber 2 = .ok (.bipush 24, 2) := by decide +kernel
theorem dX10_addNumber_4 : decode cX10_addNumber 4 = .ok (.iushr, 1) := by decide +kernel
theorem dX10_addNumber_5 : decode cX10_addNumber 5 = .ok (.invokevirtual 23, 3) := by decide +kernel
theorem dX10_addNumber_8 : decode cX10_addNumber 8 = .ok (.aload_n 0, 1) := by decide +kernel
theorem dX10_addNumber_9 : decode cX10_addNumber 9 = .ok (.iload_n 1, 1) := by decide +kernel
theorem dX10_addNumber_10 : decode cX10_addNumber 10 = .ok (.bipush 16, 2) := by decide +kernel
theorem dX10_addNumber_12 : decode cX10_addNumber 12 = .ok (.iushr, 1) := by decide +kernel
theorem dX10_addNumber_13 : decode cX10_addNumber 13 = .ok (.invokevirtual 23, 3) := by decide +kernel
theorem dX10_addNumber_16 : decode cX10_addNumber 16 = .ok (.aload_n 0, 1) := by decide +kernel
theorem dX10_addNumber_17 : decode cX10_addNumber 17 = .ok (.iload_n 1, 1) := by decide +kernel
theorem dX10_addNumber_18 : decode cX10_addNumber 18 = .ok (.bipush 8, 2) := by decide +kernel
theorem dX10_addNumber_20 : decode cX10_addNumber 20 = .ok (.iushr, 1) := by decide +kernel
theorem dX10_addNumber_21 : decode cX10_addNumber 21 = .ok (.invokevirtual 23, 3) := by decide +kernel
theorem dX10_addNumber_24 : decode cX10_addNumber 24 = .ok (.aload_n 0, 1) := by decide +kernel
theorem dX10_addNumber_25 : decode cX10_addNumber 25 = .ok (.iload_n 1, 1) := by decide +kernel
theorem dX10_addNumber_26 : decode cX10_addNumber 26 = .ok (.invokevirtual 23, 3) := by decide +kernel
theorem dX10_addNumber_29 : decode cX10_addNumber 29 = .ok (.return_, 1) := by decide +kernel
theorem w_2_190 : (Cond.methodLink RX10 23 yX10_add) ∈ wsL_law := sk_mem (ck_2 _ (List.mem_of_getElem? (i := 190) rfl)) rfl
theorem w_2_191 : (Cond.instanceMethod yX10_add) ∈ wsL_law := sk_mem (ck_2 _ (List.mem_of_getElem? (i := 191) rfl)) rfl
theorem w_2_192 : (Cond.selects RX10 yX10_add yX10_add) ∈ wsL_law := sk_mem (ck_2 _ (List.mem_of_getElem? (i := 192) rfl)) rfl
theorem w_2_189 : (Cond.code yX10_addNumber cX10_addNumber 2 none) ∈ wsL_law := sk_mem (ck_2 _ (List.mem_of_getElem? (i := 189) rfl)) rfl
set_option maxHeartbeats 4000000 in
set_option maxRecDepth 100000 in
theorem c_Tape_addNumber (l : Launch) (D : va_G) (cI cJ cC cZ cS : ClassId) (h0 : Nat) (k1 : Nat) (ln : Int32) (o : Int32) (f : Nat → Int32) (ha0 : ¬ (1600 : Int32) ≤ ln) (hb0 : vp_in (ln) 1600) (ha1 : ¬ (1600 : Int32) ≤ ln + 1) (hb1 : vp_in (ln + 1) 1600) (ha2 : ¬ (1600 : Int32) ≤ ln + 1 + 1) (hb2 : vp_in (ln + 1 + 1) 1600) (ha3 : ¬ (1600 : Int32) ≤ ln + 1 + 1 + 1) (hb3 : vp_in (ln + 1 + 1 + 1) 1600) : skM l yX10_addNumber cX10_addNumber 2 none 1 21 0 0 D (skT cI cJ cC cZ cS) [.ref h0, .int o] [(h0, .inr (10, [.ref k1, .int ln])), (k1, .inl (cI, 1600, .inl f))] (skV D (skT cI cJ cC cZ cS) (fun (u : va_W) => ∃ (f2 : Nat → Int32), u = [(h0, .inr (10, [.ref k1, .int (ln + 1 + 1 + 1 + 1)])), (k1, .inl (cI, 1600, .inl f2))])) := by
  refine skM_of (by decide) (Nat.le_of_ble_eq_true rfl) ?_
  intro p e s m below meth c A ls E hP hD hl
  obtain ⟨hx, hb, hr, hml, hlocks, hin, hown, hts, hK, hA⟩ := E
  have hown : s.vm.findClass RX10 = some m.cls := hown
  have hS : va_S A s.heap s.heap [] := va_S.rf
  have hl : lv_has ls 2 [(0, .ref h0), (1, .int o)] := hl
  refine lv_aload_n hx hb dX10_addNumber_0 rfl (lv_at hl 0 rfl) ?_
  refine lv_iload_n hx hb dX10_addNumber_1 rfl (lv_at hl 1 rfl) ?_
  refine lv_bipush (v := 24) hx hb dX10_addNumber_2 (by decide) ?_
  refine lv_iushr hx hb dX10_addNumber_4 rfl ?_
  refine lv_topi (fun v_1 ev_1 => ?_)
  refine sk_Vv (q0 := 0) (n := 1) (rest := []) (wr := []) ⟨hx, hb, hml, hown, hts⟩ hl.1 (c_Tape_add_1600 l D cI cJ cC cZ cS h0 k1 ln v_1 f ha0 hb0) w_2_190 w_2_191 w_2_192 w_1_2 w_2_193 (by decide +kernel) ⟨⟨(Nat.le_of_ble_eq_true rfl), (Nat.le_of_ble_eq_true rfl)⟩, (Nat.le_of_ble_eq_true rfl), (Nat.le_of_ble_eq_true rfl)⟩ hK hP hD hS hA [0, 1] [] rfl rfl (by decide) (by decide) (by decide) rfl rfl rfl rfl (Nat.le_of_ble_eq_true rfl) dX10_addNumber_5 (fun u H locs hw hP hD hS => ?_)
  obtain ⟨f2_2, rfl⟩ := hw
  have hP : va_P D vwCl [(h0, .inr (10, [.ref k1, .int (ln + 1)])), (k1, .inl (cI, 1600, .inl f2_2))] H := hP
  have hD : va_D A [(h0, .inr (10, [.ref k1, .int (ln + 1)])), (k1, .inl (cI, 1600, .inl f2_2))] := hD
  refine W.widen (k := 0) (n := 0) (Nat.le_of_ble_eq_true rfl) (Nat.le_of_ble_eq_true rfl) ?_
  refine lv_aload_n hx hb dX10_addNumber_8 rfl (lv_at hl 0 rfl) ?_
  refine lv_iload_n hx hb dX10_addNumber_9 rfl (lv_at hl 1 rfl) ?_
  refine lv_bipush (v := 16) hx hb dX10_addNumber_10 (by decide) ?_
  refine lv_iushr hx hb dX10_addNumber_12 rfl ?_
  refine lv_topi (fun v_3 ev_3 => ?_)
  refine sk_Vv (q0 := 0) (n := 1) (rest := []) (wr := []) ⟨hx, hb, hml, hown, hts⟩ hl.1 (c_Tape_add_1600 l D cI cJ cC cZ cS h0 k1 (ln + 1) v_3 f2_2 ha1 hb1) w_2_190 w_2_191 w_2_192 w_1_2 w_2_193 (by decide +kernel) ⟨⟨(Nat.le_of_ble_eq_true rfl), (Nat.le_of_ble_eq_true rfl)⟩, (Nat.le_of_ble_eq_true rfl), (Nat.le_of_ble_eq_true rfl)⟩ hK hP hD hS hA [0, 1] [] rfl rfl (by decide) (by decide) (by decide) rfl rfl rfl rfl (Nat.le_of_ble_eq_true rfl) dX10_addNumber_13 (fun u H locs hw hP hD hS => ?_)
  obtain ⟨f2_4, rfl⟩ := hw
  have hP : va_P D vwCl [(h0, .inr (10, [.ref k1, .int ((ln + 1) + 1)])), (k1, .inl (cI, 1600, .inl f2_4))] H := hP
  have hD : va_D A [(h0, .inr (10, [.ref k1, .int ((ln + 1) + 1)])), (k1, .inl (cI, 1600, .inl f2_4))] := hD
  refine W.widen (k := 0) (n := 0) (Nat.le_of_ble_eq_true rfl) (Nat.le_of_ble_eq_true rfl) ?_
  refine lv_aload_n hx hb dX10_addNumber_16 rfl (lv_at hl 0 rfl) ?_
  refine lv_iload_n hx hb dX10_addNumber_17 rfl (lv_at hl 1 rfl) ?_
  refine lv_bipush (v := 8) hx hb dX10_addNumber_18 (by decide) ?_
  refine lv_iushr hx hb dX10_addNumber_20 rfl ?_
  refine lv_topi (fun v_5 ev_5 => ?_)
  refine sk_Vv (q0 := 0) (n := 1) (rest := []) (wr := []) ⟨hx, hb, hml, hown, hts⟩ hl.1 (c_Tape_add_1600 l D cI cJ cC cZ cS h0 k1 ((ln + 1) + 1) v_5 f2_4 ha2 hb2) w_2_190 w_2_191 w_2_192 w_1_2 w_2_193 (by decide +kernel) ⟨⟨(Nat.le_of_ble_eq_true rfl), (Nat.le_of_ble_eq_true rfl)⟩, (Nat.le_of_ble_eq_true rfl), (Nat.le_of_ble_eq_true rfl)⟩ hK hP hD hS hA [0, 1] [] rfl rfl (by decide) (by decide) (by decide) rfl rfl rfl rfl (Nat.le_of_ble_eq_true rfl) dX10_addNumber_21 (fun u H locs hw hP hD hS => ?_)
  obtain ⟨f2_6, rfl⟩ := hw
  have hP : va_P D vwCl [(h0, .inr (10, [.ref k1, .int (((ln + 1) + 1) + 1)])), (k1, .inl (cI, 1600, .inl f2_6))] H := hP
  have hD : va_D A [(h0, .inr (10, [.ref k1, .int (((ln + 1) + 1) + 1)])), (k1, .inl (cI, 1600, .inl f2_6))] := hD
  refine W.widen (k := 0) (n := 0) (Nat.le_of_ble_eq_true rfl) (Nat.le_of_ble_eq_true rfl) ?_
  refine lv_aload_n hx hb dX10_addNumber_24 rfl (lv_at hl 0 rfl) ?_
  refine lv_iload_n hx hb dX10_addNumber_25 rfl (lv_at hl 1 rfl) ?_
  refine sk_Vv (q0 := 0) (n := 1) (rest := []) (wr := []) ⟨hx, hb, hml, hown, hts⟩ hl.1 (c_Tape_add_1600 l D cI cJ cC cZ cS h0 k1 (((ln + 1) + 1) + 1) o f2_6 ha3 hb3) w_2_190 w_2_191 w_2_192 w_1_2 w_2_193 (by decide +kernel) ⟨⟨(Nat.le_of_ble_eq_true rfl), (Nat.le_of_ble_eq_true rfl)⟩, (Nat.le_of_ble_eq_true rfl), (Nat.le_of_ble_eq_true rfl)⟩ hK hP hD hS hA [0, 1] [] rfl rfl (by decide) (by decide) (by decide) rfl rfl rfl rfl (Nat.le_of_ble_eq_true rfl) dX10_addNumber_26 (fun u H locs hw hP hD hS => ?_)
  obtain ⟨f2_7, rfl⟩ := hw
  have hP : va_P D vwCl [(h0, .inr (10, [.ref k1, .int ((((ln + 1) + 1) + 1) + 1)])), (k1, .inl (cI, 1600, .inl f2_7))] H := hP
  have hD : va_D A [(h0, .inr (10, [.ref k1, .int ((((ln + 1) + 1) + 1) + 1)])), (k1, .inl (cI, 1600, .inl f2_7))] := hD
  refine W.widen (k := 0) (n := 0) (Nat.le_of_ble_eq_true rfl) (Nat.le_of_ble_eq_true rfl) ?_
  exact sk_vret hx hb hr hlocks hK hP hD hS (⟨f2_7, rfl⟩) (Nat.le_of_ble_eq_true rfl) (Nat.le_of_ble_eq_true rfl) dX10_addNumber_29
theorem dX11_feed_0 : decode cX11_feed 0 = .ok (.aload_n 0, 1) := by decide +kernel
theorem dX11_feed_1 : decode cX11_feed 1 = .ok (.getfield 12, 3) := by decide +kernel
theorem dX11_feed_4 : decode cX11_feed 4 = .ok (.getfield 110, 3) := by decide +kernel
theorem dX11_feed_7 : decode cX11_feed 7 = .ok (.bipush 20, 2) := by decide +kernel
theorem dX11_feed_9 : decode cX11_feed 9 = .ok (.iadd, 1) := by decide +kernel
theorem dX11_feed_10 : decode cX11_feed 10 = .ok (.sipush 1600, 3) := by decide +kernel
theorem dX11_feed_13 : decode cX11_feed 13 = .ok (.if_icmp .le 9, 3) := by decide +kernel
theorem dX11_feed_22 : decode cX11_feed 22 = .ok (.aload_n 0, 1) := by decide +kernel
theorem dX11_feed_23 : decode cX11_feed 23 = .ok (.getfield 12, 3) := by decide +kernel
theorem dX11_feed_26 : decode cX11_feed 26 = .ok (.iload_n 1, 1) := by decide +kernel
theorem dX11_feed_27 : decode cX11_feed 27 = .ok (.invokevirtual 117, 3) := by decide +kernel
theorem dX11_feed_30 : decode cX11_feed 30 = .ok (.aload_n 0, 1) := by decide +kernel
theorem dX11_feed_31 : decode cX11_feed 31 = .ok (.getfield 12, 3) := by decide +kernel
theorem dX11_feed_34 : decode cX11_feed 34 = .ok (.iload_n 2, 1) := by decide +kernel
theorem dX11_feed_35 : decode cX11_feed 35 = .ok (.invokevirtual 117, 3) := by decide +kernel
theorem dX11_feed_38 : decode cX11_feed 38 = .ok (.aload_n 0, 1) := by decide +kernel
theorem dX11_feed_39 : decode cX11_feed 39 = .ok (.getfield 12, 3) := by decide +kernel
theorem dX11_feed_42 : decode cX11_feed 42 = .ok (.iload_n 3, 1) := by decide +kernel
theorem dX11_feed_43 : decode cX11_feed 43 = .ok (.invokevirtual 117, 3) := by decide +kernel
theorem dX11_feed_46 : decode cX11_feed 46 = .ok (.aload_n 0, 1) := by decide +kernel
theorem dX11_feed_47 : decode cX11_feed 47 = .ok (.getfield 12, 3) := by decide +kernel
theorem dX11_feed_50 : decode cX11_feed 50 = .ok (.iload 4, 2) := by decide +kernel
theorem dX11_feed_52 : decode cX11_feed 52 = .ok (.invokevirtual 117, 3) := by decide +kernel
theorem dX11_feed_55 : decode cX11_feed 55 = .ok (.aload_n 0, 1) := by decide +kernel
theorem dX11_feed_56 : decode cX11_feed 56 = .ok (.getfield 12, 3) := by decide +kernel
theorem dX11_feed_59 : decode cX11_feed 59 = .ok (.iload 5, 2) := by decide +kernel
theorem dX11_feed_61 : decode cX11_feed 61 = .ok (.invokevirtual 117, 3) := by decide +kernel
theorem dX11_feed_64 : decode cX11_feed 64 = .ok (.aload_n 0, 1) := by decide +kernel
theorem dX11_feed_65 : decode cX11_feed 65 = .ok (.getfield 12, 3) := by decide +kernel
theorem dX11_feed_68 : decode cX11_feed 68 = .ok (.getfield 110, 3) := by decide +kernel
theorem dX11_feed_71 : decode cX11_feed 71 = .ok (.ireturn, 1) := by decide +kernel
theorem w_1_42 : (Cond.fieldLink RX11 110 "SameKeeper$Tape" "length" "I") ∈ wsL_law := sk_mem (ck_1 _ (List.mem_of_getElem? (i := 42) rfl)) rfl
theorem w_2_186 : (Cond.methodLink RX11 117 yX10_addNumber) ∈ wsL_law := sk_mem (ck_2 _ (List.mem_of_getElem? (i := 186) rfl)) rfl
theorem w_2_187 : (Cond.instanceMethod yX10_addNumber) ∈ wsL_law := sk_mem (ck_2 _ (List.mem_of_getElem? (i := 187) rfl)) rfl
theorem w_2_188 : (Cond.selects RX10 yX10_addNumber yX10_addNumber) ∈ wsL_law := sk_mem (ck_2 _ (List.mem_of_getElem? (i := 188) rfl)) rfl
theorem w_2_181 : (Cond.code yX11_feed cX11_feed 6 (some .int)) ∈ wsL_law := sk_mem (ck_2 _ (List.mem_of_getElem? (i := 181) rfl)) rfl
set_option maxHeartbeats 4000000 in
set_option maxRecDepth 100000 in
theorem c_x_feed (l : Launch) (D : va_G) (cI cJ cC cZ cS : ClassId) (x0 : Nat) (q : Nat → Nat) (a1 : Int32) (a2 : Int32) (a3 : Int32) (a4 : Int32) (a5 : Int32)  : skM l yX11_feed cX11_feed 6 (some .int) 2 42 0 0 D (skT cI cJ cC cZ cS) [.ref x0, .int a1, .int a2, .int a3, .int a4, .int a5] [(x0, .inr (11, [.ref (q 0), .ref (q 1), .ref (q 2), .ref (q 3), .ref (q 4), .ref (q 5), .ref (q 6), .ref (q 7), .ref (q 8), .ref (q 9), .ref (q 10), .ref (q 11), .ref (q 12), .ref (q 13), .ref (q 14), .int 0, .ref (q 16), .long 1])), (q 0, .inr (10, [.ref (q 20), .int 0])), (q 20, .inl (cI, 1600, .inl (fun _ => 0)))] (skI D (skT cI cJ cC cZ cS) (fun (r : Int32) (u : va_W) => r = 20 ∧ u = [])) := by
  refine skM_of (by decide) (Nat.le_of_ble_eq_true rfl) ?_
  intro p e s m below meth c A ls E hP hD hl
  obtain ⟨hx, hb, hr, hml, hlocks, hin, hown, hts, hK, hA⟩ := E
  have hown : s.vm.findClass RX11 = some m.cls := hown
  have hS : va_S A s.heap s.heap [] := va_S.rf
  have hl : lv_has ls 6 [(0, .ref x0), (1, .int a1), (2, .int a2), (3, .int a3), (4, .int a4), (5, .int a5)] := hl
  refine lv_aload_n hx hb dX11_feed_0 rfl (lv_at hl 0 rfl) ?_
  refine sk_get (v := .ref (q 0)) (C := RX11) (T := TX11) (N := 18) hx hb hts inlX11 hown hK hP 0 rfl rfl 0 (by decide) w_2_123 rfl dX11_feed_1 ?_
  refine sk_get (v := .int 0) (C := RX10) (T := TX10) (N := 2) hx hb hts inlX10 hown hK hP 1 rfl rfl 1 (by decide) w_1_42 rfl dX11_feed_4 ?_
  refine lv_bipush (v := 20) hx hb dX11_feed_7 (by decide) ?_
  refine lv_iadd hx hb dX11_feed_9 ?_
  refine sk_top 20 (by decide) ?_
  refine lv_sipush (v := 1600) hx hb dX11_feed_10 (by decide) ?_
  refine lv_icmp_le (tgt := 22) hx hb dX11_feed_13 (by decide) (fun c_1 => ?_) (fun c => absurd c (by decide))
  refine lv_aload_n hx hb dX11_feed_22 rfl (lv_at hl 0 rfl) ?_
  refine sk_get (v := .ref (q 0)) (C := RX11) (T := TX11) (N := 18) hx hb hts inlX11 hown hK hP 0 rfl rfl 0 (by decide) w_2_123 rfl dX11_feed_23 ?_
  refine lv_iload_n hx hb dX11_feed_26 rfl (lv_at hl 1 rfl) ?_
  refine sk_Vv (q0 := 0) (n := 1) (rest := []) (wr := [(x0, .inr (11, [.ref (q 0), .ref (q 1), .ref (q 2), .ref (q 3), .ref (q 4), .ref (q 5), .ref (q 6), .ref (q 7), .ref (q 8), .ref (q 9), .ref (q 10), .ref (q 11), .ref (q 12), .ref (q 13), .ref (q 14), .int 0, .ref (q 16), .long 1]))]) ⟨hx, hb, hml, hown, hts⟩ hl.1 (c_Tape_addNumber l D cI cJ cC cZ cS (q 0) (q 20) 0 a1 (fun _ => 0) (by decide) (by unfold vp_in; decide) (by decide) (by unfold vp_in; decide) (by decide) (by unfold vp_in; decide) (by decide) (by unfold vp_in; decide)) w_2_186 w_2_187 w_2_188 w_1_2 w_2_189 (by decide +kernel) ⟨⟨(Nat.le_of_ble_eq_true rfl), (Nat.le_of_ble_eq_true rfl)⟩, (Nat.le_of_ble_eq_true rfl), (Nat.le_of_ble_eq_true rfl)⟩ hK hP hD hS hA [1, 2] [0] rfl rfl (by decide) (by decide) (by decide) rfl rfl rfl rfl (Nat.le_of_ble_eq_true rfl) dX11_feed_27 (fun u H locs hw hP hD hS => ?_)
  obtain ⟨f2_2, rfl⟩ := hw
  have hP : va_P D vwCl [(x0, .inr (11, [.ref (q 0), .ref (q 1), .ref (q 2), .ref (q 3), .ref (q 4), .ref (q 5), .ref (q 6), .ref (q 7), .ref (q 8), .ref (q 9), .ref (q 10), .ref (q 11), .ref (q 12), .ref (q 13), .ref (q 14), .int 0, .ref (q 16), .long 1])), (q 0, .inr (10, [.ref (q 20), .int 4])), (q 20, .inl (cI, 1600, .inl f2_2))] H := hP
  have hD : va_D A [(x0, .inr (11, [.ref (q 0), .ref (q 1), .ref (q 2), .ref (q 3), .ref (q 4), .ref (q 5), .ref (q 6), .ref (q 7), .ref (q 8), .ref (q 9), .ref (q 10), .ref (q 11), .ref (q 12), .ref (q 13), .ref (q 14), .int 0, .ref (q 16), .long 1])), (q 0, .inr (10, [.ref (q 20), .int 4])), (q 20, .inl (cI, 1600, .inl f2_2))] := hD
  refine W.widen (k := 0) (n := 0) (Nat.le_of_ble_eq_true rfl) (Nat.le_of_ble_eq_true rfl) ?_
  refine lv_aload_n hx hb dX11_feed_30 rfl (lv_at hl 0 rfl) ?_
  refine sk_get (v := .ref (q 0)) (C := RX11) (T := TX11) (N := 18) hx hb hts inlX11 hown hK hP 0 rfl rfl 0 (by decide) w_2_123 rfl dX11_feed_31 ?_
  refine lv_iload_n hx hb dX11_feed_34 rfl (lv_at hl 2 rfl) ?_
  refine sk_Vv (q0 := 0) (n := 1) (rest := []) (wr := [(x0, .inr (11, [.ref (q 0), .ref (q 1), .ref (q 2), .ref (q 3), .ref (q 4), .ref (q 5), .ref (q 6), .ref (q 7), .ref (q 8), .ref (q 9), .ref (q 10), .ref (q 11), .ref (q 12), .ref (q 13), .ref (q 14), .int 0, .ref (q 16), .long 1]))]) ⟨hx, hb, hml, hown, hts⟩ hl.1 (c_Tape_addNumber l D cI cJ cC cZ cS (q 0) (q 20) 4 a2 f2_2 (by decide) (by unfold vp_in; decide) (by decide) (by unfold vp_in; decide) (by decide) (by unfold vp_in; decide) (by decide) (by unfold vp_in; decide)) w_2_186 w_2_187 w_2_188 w_1_2 w_2_189 (by decide +kernel) ⟨⟨(Nat.le_of_ble_eq_true rfl), (Nat.le_of_ble_eq_true rfl)⟩, (Nat.le_of_ble_eq_true rfl), (Nat.le_of_ble_eq_true rfl)⟩ hK hP hD hS hA [1, 2] [0] rfl rfl (by decide) (by decide) (by decide) rfl rfl rfl rfl (Nat.le_of_ble_eq_true rfl) dX11_feed_35 (fun u H locs hw hP hD hS => ?_)
  obtain ⟨f2_3, rfl⟩ := hw
  have hP : va_P D vwCl [(x0, .inr (11, [.ref (q 0), .ref (q 1), .ref (q 2), .ref (q 3), .ref (q 4), .ref (q 5), .ref (q 6), .ref (q 7), .ref (q 8), .ref (q 9), .ref (q 10), .ref (q 11), .ref (q 12), .ref (q 13), .ref (q 14), .int 0, .ref (q 16), .long 1])), (q 0, .inr (10, [.ref (q 20), .int 8])), (q 20, .inl (cI, 1600, .inl f2_3))] H := hP
  have hD : va_D A [(x0, .inr (11, [.ref (q 0), .ref (q 1), .ref (q 2), .ref (q 3), .ref (q 4), .ref (q 5), .ref (q 6), .ref (q 7), .ref (q 8), .ref (q 9), .ref (q 10), .ref (q 11), .ref (q 12), .ref (q 13), .ref (q 14), .int 0, .ref (q 16), .long 1])), (q 0, .inr (10, [.ref (q 20), .int 8])), (q 20, .inl (cI, 1600, .inl f2_3))] := hD
  refine W.widen (k := 0) (n := 0) (Nat.le_of_ble_eq_true rfl) (Nat.le_of_ble_eq_true rfl) ?_
  refine lv_aload_n hx hb dX11_feed_38 rfl (lv_at hl 0 rfl) ?_
  refine sk_get (v := .ref (q 0)) (C := RX11) (T := TX11) (N := 18) hx hb hts inlX11 hown hK hP 0 rfl rfl 0 (by decide) w_2_123 rfl dX11_feed_39 ?_
  refine lv_iload_n hx hb dX11_feed_42 rfl (lv_at hl 3 rfl) ?_
  refine sk_Vv (q0 := 0) (n := 1) (rest := []) (wr := [(x0, .inr (11, [.ref (q 0), .ref (q 1), .ref (q 2), .ref (q 3), .ref (q 4), .ref (q 5), .ref (q 6), .ref (q 7), .ref (q 8), .ref (q 9), .ref (q 10), .ref (q 11), .ref (q 12), .ref (q 13), .ref (q 14), .int 0, .ref (q 16), .long 1]))]) ⟨hx, hb, hml, hown, hts⟩ hl.1 (c_Tape_addNumber l D cI cJ cC cZ cS (q 0) (q 20) 8 a3 f2_3 (by decide) (by unfold vp_in; decide) (by decide) (by unfold vp_in; decide) (by decide) (by unfold vp_in; decide) (by decide) (by unfold vp_in; decide)) w_2_186 w_2_187 w_2_188 w_1_2 w_2_189 (by decide +kernel) ⟨⟨(Nat.le_of_ble_eq_true rfl), (Nat.le_of_ble_eq_true rfl)⟩, (Nat.le_of_ble_eq_true rfl), (Nat.le_of_ble_eq_true rfl)⟩ hK hP hD hS hA [1, 2] [0] rfl rfl (by decide) (by decide) (by decide) rfl rfl rfl rfl (Nat.le_of_ble_eq_true rfl) dX11_feed_43 (fun u H locs hw hP hD hS => ?_)
  obtain ⟨f2_4, rfl⟩ := hw
  have hP : va_P D vwCl [(x0, .inr (11, [.ref (q 0), .ref (q 1), .ref (q 2), .ref (q 3), .ref (q 4), .ref (q 5), .ref (q 6), .ref (q 7), .ref (q 8), .ref (q 9), .ref (q 10), .ref (q 11), .ref (q 12), .ref (q 13), .ref (q 14), .int 0, .ref (q 16), .long 1])), (q 0, .inr (10, [.ref (q 20), .int 12])), (q 20, .inl (cI, 1600, .inl f2_4))] H := hP
  have hD : va_D A [(x0, .inr (11, [.ref (q 0), .ref (q 1), .ref (q 2), .ref (q 3), .ref (q 4), .ref (q 5), .ref (q 6), .ref (q 7), .ref (q 8), .ref (q 9), .ref (q 10), .ref (q 11), .ref (q 12), .ref (q 13), .ref (q 14), .int 0, .ref (q 16), .long 1])), (q 0, .inr (10, [.ref (q 20), .int 12])), (q 20, .inl (cI, 1600, .inl f2_4))] := hD
  refine W.widen (k := 0) (n := 0) (Nat.le_of_ble_eq_true rfl) (Nat.le_of_ble_eq_true rfl) ?_
  refine lv_aload_n hx hb dX11_feed_46 rfl (lv_at hl 0 rfl) ?_
  refine sk_get (v := .ref (q 0)) (C := RX11) (T := TX11) (N := 18) hx hb hts inlX11 hown hK hP 0 rfl rfl 0 (by decide) w_2_123 rfl dX11_feed_47 ?_
  refine lv_iload hx hb dX11_feed_50 (lv_at hl 4 rfl) ?_
  refine sk_Vv (q0 := 0) (n := 1) (rest := []) (wr := [(x0, .inr (11, [.ref (q 0), .ref (q 1), .ref (q 2), .ref (q 3), .ref (q 4), .ref (q 5), .ref (q 6), .ref (q 7), .ref (q 8), .ref (q 9), .ref (q 10), .ref (q 11), .ref (q 12), .ref (q 13), .ref (q 14), .int 0, .ref (q 16), .long 1]))]) ⟨hx, hb, hml, hown, hts⟩ hl.1 (c_Tape_addNumber l D cI cJ cC cZ cS (q 0) (q 20) 12 a4 f2_4 (by decide) (by unfold vp_in; decide) (by decide) (by unfold vp_in; decide) (by decide) (by unfold vp_in; decide) (by decide) (by unfold vp_in; decide)) w_2_186 w_2_187 w_2_188 w_1_2 w_2_189 (by decide +kernel) ⟨⟨(Nat.le_of_ble_eq_true rfl), (Nat.le_of_ble_eq_true rfl)⟩, (Nat.le_of_ble_eq_true rfl), (Nat.le_of_ble_eq_true rfl)⟩ hK hP hD hS hA [1, 2] [0] rfl rfl (by decide) (by decide) (by decide) rfl rfl rfl rfl (Nat.le_of_ble_eq_true rfl) dX11_feed_52 (fun u H locs hw hP hD hS => ?_)
  obtain ⟨f2_5, rfl⟩ := hw
  have hP : va_P D vwCl [(x0, .inr (11, [.ref (q 0), .ref (q 1), .ref (q 2), .ref (q 3), .ref (q 4), .ref (q 5), .ref (q 6), .ref (q 7), .ref (q 8), .ref (q 9), .ref (q 10), .ref (q 11), .ref (q 12), .ref (q 13), .ref (q 14), .int 0, .ref (q 16), .long 1])), (q 0, .inr (10, [.ref (q 20), .int 16])), (q 20, .inl (cI, 1600, .inl f2_5))] H := hP
  have hD : va_D A [(x0, .inr (11, [.ref (q 0), .ref (q 1), .ref (q 2), .ref (q 3), .ref (q 4), .ref (q 5), .ref (q 6), .ref (q 7), .ref (q 8), .ref (q 9), .ref (q 10), .ref (q 11), .ref (q 12), .ref (q 13), .ref (q 14), .int 0, .ref (q 16), .long 1])), (q 0, .inr (10, [.ref (q 20), .int 16])), (q 20, .inl (cI, 1600, .inl f2_5))] := hD
  refine W.widen (k := 0) (n := 0) (Nat.le_of_ble_eq_true rfl) (Nat.le_of_ble_eq_true rfl) ?_
  refine lv_aload_n hx hb dX11_feed_55 rfl (lv_at hl 0 rfl) ?_
  refine sk_get (v := .ref (q 0)) (C := RX11) (T := TX11) (N := 18) hx hb hts inlX11 hown hK hP 0 rfl rfl 0 (by decide) w_2_123 rfl dX11_feed_56 ?_
  refine lv_iload hx hb dX11_feed_59 (lv_at hl 5 rfl) ?_
  refine sk_Vv (q0 := 0) (n := 1) (rest := []) (wr := [(x0, .inr (11, [.ref (q 0), .ref (q 1), .ref (q 2), .ref (q 3), .ref (q 4), .ref (q 5), .ref (q 6), .ref (q 7), .ref (q 8), .ref (q 9), .ref (q 10), .ref (q 11), .ref (q 12), .ref (q 13), .ref (q 14), .int 0, .ref (q 16), .long 1]))]) ⟨hx, hb, hml, hown, hts⟩ hl.1 (c_Tape_addNumber l D cI cJ cC cZ cS (q 0) (q 20) 16 a5 f2_5 (by decide) (by unfold vp_in; decide) (by decide) (by unfold vp_in; decide) (by decide) (by unfold vp_in; decide) (by decide) (by unfold vp_in; decide)) w_2_186 w_2_187 w_2_188 w_1_2 w_2_189 (by decide +kernel) ⟨⟨(Nat.le_of_ble_eq_true rfl), (Nat.le_of_ble_eq_true rfl)⟩, (Nat.le_of_ble_eq_true rfl), (Nat.le_of_ble_eq_true rfl)⟩ hK hP hD hS hA [1, 2] [0] rfl rfl (by decide) (by decide) (by decide) rfl rfl rfl rfl (Nat.le_of_ble_eq_true rfl) dX11_feed_61 (fun u H locs hw hP hD hS => ?_)
  obtain ⟨f2_6, rfl⟩ := hw
  have hP : va_P D vwCl [(x0, .inr (11, [.ref (q 0), .ref (q 1), .ref (q 2), .ref (q 3), .ref (q 4), .ref (q 5), .ref (q 6), .ref (q 7), .ref (q 8), .ref (q 9), .ref (q 10), .ref (q 11), .ref (q 12), .ref (q 13), .ref (q 14), .int 0, .ref (q 16), .long 1])), (q 0, .inr (10, [.ref (q 20), .int 20])), (q 20, .inl (cI, 1600, .inl f2_6))] H := hP
  have hD : va_D A [(x0, .inr (11, [.ref (q 0), .ref (q 1), .ref (q 2), .ref (q 3), .ref (q 4), .ref (q 5), .ref (q 6), .ref (q 7), .ref (q 8), .ref (q 9), .ref (q 10), .ref (q 11), .ref (q 12), .ref (q 13), .ref (q 14), .int 0, .ref (q 16), .long 1])), (q 0, .inr (10, [.ref (q 20), .int 20])), (q 20, .inl (cI, 1600, .inl f2_6))] := hD
  refine W.widen (k := 0) (n := 0) (Nat.le_of_ble_eq_true rfl) (Nat.le_of_ble_eq_true rfl) ?_
  refine lv_aload_n hx hb dX11_feed_64 rfl (lv_at hl 0 rfl) ?_
  refine sk_get (v := .ref (q 0)) (C := RX11) (T := TX11) (N := 18) hx hb hts inlX11 hown hK hP 0 rfl rfl 0 (by decide) w_2_123 rfl dX11_feed_65 ?_
  refine sk_get (v := .int 20) (C := RX10) (T := TX10) (N := 2) hx hb hts inlX10 hown hK hP 1 rfl rfl 1 (by decide) w_1_42 rfl dX11_feed_68 ?_
  have hP := hP.sub (ws' := []) [] rfl
  have hD := hD.sub (ws' := []) [] (by decide) rfl
  exact sk_iret hx hb hr rfl hlocks hK hP hD hS (⟨rfl, rfl⟩) (Nat.le_of_ble_eq_true rfl) (Nat.le_of_ble_eq_true rfl) dX11_feed_71
theorem dX11_end_0 : decode cX11_end 0 = .ok (.iload_n 1, 1) := by decide +kernel
theorem dX11_end_1 : decode cX11_end 1 = .ok (.ifCond .lt 14, 3) := by decide +kernel
theorem dX11_end_15 : decode cX11_end 15 = .ok (.aload_n 0, 1) := by decide +kernel
theorem dX11_end_16 : decode cX11_end 16 = .ok (.iconst 0, 1) := by decide +kernel
theorem dX11_end_17 : decode cX11_end 17 = .ok (.invokevirtual 120, 3) := by decide +kernel
theorem dX11_end_20 : decode cX11_end 20 = .ok (.ireturn, 1) := by decide +kernel
theorem dX11_end_4 : decode cX11_end 4 = .ok (.iload_n 1, 1) := by decide +kernel
theorem dX11_end_5 : decode cX11_end 5 = .ok (.aload_n 0, 1) := by decide +kernel
theorem dX11_end_6 : decode cX11_end 6 = .ok (.getfield 12, 3) := by decide +kernel
theorem dX11_end_9 : decode cX11_end 9 = .ok (.getfield 110, 3) := by decide +kernel
theorem dX11_end_12 : decode cX11_end 12 = .ok (.if_icmp .le 9, 3) := by decide +kernel
theorem dX11_end_21 : decode cX11_end 21 = .ok (.aload_n 0, 1) := by decide +kernel
theorem dX11_end_22 : decode cX11_end 22 = .ok (.getfield 12, 3) := by decide +kernel
theorem dX11_end_25 : decode cX11_end 25 = .ok (.iload_n 1, 1) := by decide +kernel
theorem dX11_end_26 : decode cX11_end 26 = .ok (.putfield 110, 3) := by decide +kernel
theorem dX11_end_29 : decode cX11_end 29 = .ok (.iconst 1, 1) := by decide +kernel
theorem dX11_end_30 : decode cX11_end 30 = .ok (.ireturn, 1) := by decide +kernel
theorem w_2_198 : (Cond.methodLink RX11 120 yX11_refuseIt) ∈ wsL_law := sk_mem (ck_2 _ (List.mem_of_getElem? (i := 198) rfl)) rfl
theorem w_2_200 : (Cond.instanceMethod yX11_refuseIt) ∈ wsL_law := sk_mem (ck_2 _ (List.mem_of_getElem? (i := 200) rfl)) rfl
theorem w_0_1 : (Cond.selects RX11 yX11_refuseIt yX11_refuseIt) ∈ wsL_law := sk_mem (ck_0 _ (List.mem_of_getElem? (i := 1) rfl)) rfl
theorem w_1_1 : (Cond.initialized RX11) ∈ wsL_law := sk_mem (ck_1 _ (List.mem_of_getElem? (i := 1) rfl)) rfl
theorem w_2_197 : (Cond.code yX11_end cX11_end 2 (some .boolean)) ∈ wsL_law := sk_mem (ck_2 _ (List.mem_of_getElem? (i := 197) rfl)) rfl
set_option maxHeartbeats 4000000 in
set_option maxRecDepth 100000 in
theorem c_x_end (l : Launch) (D : va_G) (cI cJ cC cZ cS : ClassId) (x0 : Nat) (q : Nat → Nat) (n : Int32)  : skM l yX11_end cX11_end 2 (some .boolean) 1 21 0 0 D (skT cI cJ cC cZ cS) [.ref x0, .int n] [(x0, .inr (11, [.ref (q 0), .ref (q 1), .ref (q 2), .ref (q 3), .ref (q 4), .ref (q 5), .ref (q 6), .ref (q 7), .ref (q 8), .ref (q 9), .ref (q 10), .ref (q 11), .ref (q 12), .ref (q 13), .ref (q 14), .int 0, .ref (q 16), .long 1])), (q 0, .inr (10, [.ref (q 20), .int 0])), (q 16, .inl (cI, 6, .inl (fun _ => 0)))] (skI D (skT cI cJ cC cZ cS) (fun (r : Int32) (u : va_W) => r = sp_end n ∧ u = [])) := by
  refine skM_of (by decide) (Nat.le_of_ble_eq_true rfl) ?_
  intro p e s m below meth c A ls E hP hD hl
  obtain ⟨hx, hb, hr, hml, hlocks, hin, hown, hts, hK, hA⟩ := E
  have hown : s.vm.findClass RX11 = some m.cls := hown
  have hS : va_S A s.heap s.heap [] := va_S.rf
  have hl : lv_has ls 2 [(0, .ref x0), (1, .int n)] := hl
  refine lv_iload_n hx hb dX11_end_0 rfl (lv_at hl 1 rfl) ?_
  refine lv_if_lt (tgt := 15) hx hb dX11_end_1 (by decide) (fun c_1 => ?_) (fun c_1 => ?_)
  · refine lv_aload_n hx hb dX11_end_15 rfl (lv_at hl 0 rfl) ?_
    refine lv_iconst (v := 0) hx hb dX11_end_16 (by decide) ?_
    refine sk_Vi (q0 := 0) (n := 1) (rest := []) (wr := [(q 0, .inr (10, [.ref (q 20), .int 0]))]) ⟨hx, hb, hml, hown, hts⟩ hl.1 (c_x_refuseIt l D cI cJ cC cZ cS x0 q 0 (fun _ => 0) (by unfold vp_in; decide)) w_2_198 w_2_200 w_0_1 w_1_1 w_2_201 (by decide +kernel) ⟨⟨(Nat.le_of_ble_eq_true rfl), (Nat.le_of_ble_eq_true rfl)⟩, (Nat.le_of_ble_eq_true rfl), (Nat.le_of_ble_eq_true rfl)⟩ hK hP hD hS hA [0, 2] [1] rfl rfl (by decide) (by decide) (by decide) rfl rfl rfl rfl (Nat.le_of_ble_eq_true rfl) dX11_end_17 (fun r_3 u H locs hw hP hD hS => ?_)
    obtain ⟨f2_2, rfl, rfl⟩ := hw
    have hP : va_P D vwCl [(q 0, .inr (10, [.ref (q 20), .int 0])), (x0, .inr (11, [.ref (q 0), .ref (q 1), .ref (q 2), .ref (q 3), .ref (q 4), .ref (q 5), .ref (q 6), .ref (q 7), .ref (q 8), .ref (q 9), .ref (q 10), .ref (q 11), .ref (q 12), .ref (q 13), .ref (q 14), .int 0, .ref (q 16), .long 1])), (q 16, .inl (cI, 6, .inl f2_2))] H := hP
    have hD : va_D A [(q 0, .inr (10, [.ref (q 20), .int 0])), (x0, .inr (11, [.ref (q 0), .ref (q 1), .ref (q 2), .ref (q 3), .ref (q 4), .ref (q 5), .ref (q 6), .ref (q 7), .ref (q 8), .ref (q 9), .ref (q 10), .ref (q 11), .ref (q 12), .ref (q 13), .ref (q 14), .int 0, .ref (q 16), .long 1])), (q 16, .inl (cI, 6, .inl f2_2))] := hD
    refine W.widen (k := 0) (n := 0) (Nat.le_of_ble_eq_true rfl) (Nat.le_of_ble_eq_true rfl) ?_
    have hP := hP.sub (ws' := []) [] rfl
    have hD := hD.sub (ws' := []) [] (by decide) rfl
    exact sk_iret hx hb hr rfl hlocks hK hP hD hS (⟨by first | decide | simp [sp_end, c_1], rfl⟩) (Nat.le_of_ble_eq_true rfl) (Nat.le_of_ble_eq_true rfl) dX11_end_20
  · refine lv_iload_n hx hb dX11_end_4 rfl (lv_at hl 1 rfl) ?_
    refine lv_aload_n hx hb dX11_end_5 rfl (lv_at hl 0 rfl) ?_
    refine sk_get (v := .ref (q 0)) (C := RX11) (T := TX11) (N := 18) hx hb hts inlX11 hown hK hP 0 rfl rfl 0 (by decide) w_2_123 rfl dX11_end_6 ?_
    refine sk_get (v := .int 0) (C := RX10) (T := TX10) (N := 2) hx hb hts inlX10 hown hK hP 1 rfl rfl 1 (by decide) w_1_42 rfl dX11_end_9 ?_
    refine lv_icmp_le (tgt := 21) hx hb dX11_end_12 (by decide) (fun c_4 => ?_) (fun c_4 => ?_)
    · refine lv_aload_n hx hb dX11_end_21 rfl (lv_at hl 0 rfl) ?_
      refine sk_get (v := .ref (q 0)) (C := RX11) (T := TX11) (N := 18) hx hb hts inlX11 hown hK hP 0 rfl rfl 0 (by decide) w_2_123 rfl dX11_end_22 ?_
      refine lv_iload_n hx hb dX11_end_25 rfl (lv_at hl 1 rfl) ?_
      refine sk_put (ws' := [(x0, .inr (11, [.ref (q 0), .ref (q 1), .ref (q 2), .ref (q 3), .ref (q 4), .ref (q 5), .ref (q 6), .ref (q 7), .ref (q 8), .ref (q 9), .ref (q 10), .ref (q 11), .ref (q 12), .ref (q 13), .ref (q 14), .int 0, .ref (q 16), .long 1])), (q 0, .inr (10, [.ref (q 20), .int n])), (q 16, .inl (cI, 6, .inl (fun _ => 0)))]) (C := RX10) (T := TX10) (N := 2) (v := .int n) hx hb hts inlX10 tyX10 tyX10_ok nmX10 hown hK hP hD hS 1 rfl rfl 1 (by decide) w_1_42 rfl rfl rfl (Nat.le_of_ble_eq_true rfl) rfl dX11_end_26 (fun H locs hP hD hS => ?_)
      refine lv_iconst (v := 1) hx hb dX11_end_29 (by decide) ?_
      have hP := hP.sub (ws' := []) [] rfl
      have hD := hD.sub (ws' := []) [] (by decide) rfl
      exact sk_iret hx hb hr rfl hlocks hK hP hD hS (⟨by first | decide | simp [sp_end, c_1, c_4], rfl⟩) (Nat.le_of_ble_eq_true rfl) (Nat.le_of_ble_eq_true rfl) dX11_end_30
    · refine lv_aload_n hx hb dX11_end_15 rfl (lv_at hl 0 rfl) ?_
      refine lv_iconst (v := 0) hx hb dX11_end_16 (by decide) ?_
      refine sk_Vi (q0 := 0) (n := 1) (rest := []) (wr := [(q 0, .inr (10, [.ref (q 20), .int 0]))]) ⟨hx, hb, hml, hown, hts⟩ hl.1 (c_x_refuseIt l D cI cJ cC cZ cS x0 q 0 (fun _ => 0) (by unfold vp_in; decide)) w_2_198 w_2_200 w_0_1 w_1_1 w_2_201 (by decide +kernel) ⟨⟨(Nat.le_of_ble_eq_true rfl), (Nat.le_of_ble_eq_true rfl)⟩, (Nat.le_of_ble_eq_true rfl), (Nat.le_of_ble_eq_true rfl)⟩ hK hP hD hS hA [0, 2] [1] rfl rfl (by decide) (by decide) (by decide) rfl rfl rfl rfl (Nat.le_of_ble_eq_true rfl) dX11_end_17 (fun r_6 u H locs hw hP hD hS => ?_)
      obtain ⟨f2_5, rfl, rfl⟩ := hw
      have hP : va_P D vwCl [(q 0, .inr (10, [.ref (q 20), .int 0])), (x0, .inr (11, [.ref (q 0), .ref (q 1), .ref (q 2), .ref (q 3), .ref (q 4), .ref (q 5), .ref (q 6), .ref (q 7), .ref (q 8), .ref (q 9), .ref (q 10), .ref (q 11), .ref (q 12), .ref (q 13), .ref (q 14), .int 0, .ref (q 16), .long 1])), (q 16, .inl (cI, 6, .inl f2_5))] H := hP
      have hD : va_D A [(q 0, .inr (10, [.ref (q 20), .int 0])), (x0, .inr (11, [.ref (q 0), .ref (q 1), .ref (q 2), .ref (q 3), .ref (q 4), .ref (q 5), .ref (q 6), .ref (q 7), .ref (q 8), .ref (q 9), .ref (q 10), .ref (q 11), .ref (q 12), .ref (q 13), .ref (q 14), .int 0, .ref (q 16), .long 1])), (q 16, .inl (cI, 6, .inl f2_5))] := hD
      refine W.widen (k := 0) (n := 0) (Nat.le_of_ble_eq_true rfl) (Nat.le_of_ble_eq_true rfl) ?_
      have hP := hP.sub (ws' := []) [] rfl
      have hD := hD.sub (ws' := []) [] (by decide) rfl
      exact sk_iret hx hb hr rfl hlocks hK hP hD hS (⟨by first | decide | simp [sp_end, c_1, c_4], rfl⟩) (Nat.le_of_ble_eq_true rfl) (Nat.le_of_ble_eq_true rfl) dX11_end_20
end
section
theorem dJ7_fill_53178_0 : decode cJ7_fill_53178 0 = .ok (.iconst 0, 1) := by decide +kernel
theorem dJ7_fill_53178_1 : decode cJ7_fill_53178 1 = .ok (.istore_n 2, 1) := by decide +kernel
theorem dJ7_fill_53178_2 : decode cJ7_fill_53178 2 = .ok (.aload_n 0, 1) := by decide +kernel
theorem dJ7_fill_53178_3 : decode cJ7_fill_53178 3 = .ok (.arraylength, 1) := by decide +kernel
theorem dJ7_fill_53178_4 : decode cJ7_fill_53178 4 = .ok (.istore_n 3, 1) := by decide +kernel
theorem dJ7_fill_53178_5 : decode cJ7_fill_53178 5 = .ok (.iload_n 2, 1) := by decide +kernel
theorem dJ7_fill_53178_6 : decode cJ7_fill_53178 6 = .ok (.iload_n 3, 1) := by decide +kernel
theorem dJ7_fill_53178_7 : decode cJ7_fill_53178 7 = .ok (.if_icmp .ge 13, 3) := by decide +kernel
theorem dJ7_fill_53178_10 : decode cJ7_fill_53178 10 = .ok (.aload_n 0, 1) := by decide +kernel
theorem dJ7_fill_53178_11 : decode cJ7_fill_53178 11 = .ok (.iload_n 2, 1) := by decide +kernel
theorem dJ7_fill_53178_12 : decode cJ7_fill_53178 12 = .ok (.iload_n 1, 1) := by decide +kernel
theorem dJ7_fill_53178_13 : decode cJ7_fill_53178 13 = .ok (.iastore, 1) := by decide +kernel
theorem dJ7_fill_53178_14 : decode cJ7_fill_53178 14 = .ok (.iinc 2 1, 3) := by decide +kernel
theorem dJ7_fill_53178_17 : decode cJ7_fill_53178 17 = .ok (.goto (-12), 3) := by decide +kernel
theorem dJ7_fill_53178_20 : decode cJ7_fill_53178 20 = .ok (.return_, 1) := by decide +kernel
theorem w_2_220 : (Cond.code yJ7_fill_53178 cJ7_fill_53178 4 none) ∈ wsL_law := sk_mem (ck_2 _ (List.mem_of_getElem? (i := 220) rfl)) rfl
set_option maxHeartbeats 4000000 in
set_option maxRecDepth 100000 in
theorem c_fill_9 (l : Launch) (D : va_G) (cI cJ cC cZ cS : ClassId) (ar : Nat)  : skM l yJ7_fill_53178 cJ7_fill_53178 4 none 0 0 0 0 D (skT cI cJ cC cZ cS) [.ref ar, .int 0] [(ar, .inl (cI, 9, .inl (fun _ => 0)))] (skV D (skT cI cJ cC cZ cS) (fun (u : va_W) => u = [(ar, .inl (cI, 9, .inl (fun _ => 0)))])) := by
  refine skM_of (by decide) (Nat.le_of_ble_eq_true rfl) ?_
  intro p e s m below meth c A ls E hP hD hl
  obtain ⟨hx, hb, hr, hml, hlocks, hin, hown, hts, hK, hA⟩ := E
  have hown : s.vm.findClass RJ7 = some m.cls := hown
  have hS : va_S A s.heap s.heap [] := va_S.rf
  have hl : lv_has ls 4 [(0, .ref ar), (1, .int 0)] := hl
  refine lv_iconst (v := 0) hx hb dJ7_fill_53178_0 (by decide) ?_
  refine lv_istore_n (lv' := [(2, .int 0), (0, .ref ar), (1, .int 0)]) hx hb dJ7_fill_53178_1 rfl hl (by decide) rfl (fun ls hl => ?_)
  refine lv_aload_n hx hb dJ7_fill_53178_2 rfl (lv_at hl 1 rfl) ?_
  refine va_alen (v := 9) hx hb hK.1 hP 0 0 rfl rfl rfl dJ7_fill_53178_3 ?_
  refine lv_istore_n (lv' := [(3, .int 9), (2, .int 0), (0, .ref ar), (1, .int 0)]) hx hb dJ7_fill_53178_4 rfl hl (by decide) rfl (fun ls hl => ?_)
  refine lv_iload_n hx hb dJ7_fill_53178_5 rfl (lv_at hl 1 rfl) ?_
  refine lv_iload_n hx hb dJ7_fill_53178_6 rfl (lv_at hl 0 rfl) ?_
  refine lv_icmp_ge (tgt := 20) hx hb dJ7_fill_53178_7 (by decide) (fun c => absurd c (by decide)) (fun c_1 => ?_)
  refine lv_aload_n hx hb dJ7_fill_53178_10 rfl (lv_at hl 2 rfl) ?_
  refine lv_iload_n hx hb dJ7_fill_53178_11 rfl (lv_at hl 1 rfl) ?_
  refine lv_iload_n hx hb dJ7_fill_53178_12 rfl (lv_at hl 3 rfl) ?_
  refine sk_iast0 hx hb hK hP hD hS 0 0 rfl rfl (by unfold vp_in; decide) dJ7_fill_53178_13 (fun H locs hP hD hS => ?_)
  refine lv_iinc (v := 1) (lv' := [(2, .int 1), (3, .int 9), (0, .ref ar), (1, .int 0)]) hx hb dJ7_fill_53178_14 hl (k := 1) rfl (by decide) (by decide) rfl (fun ls hl => ?_)
  refine lv_goto (tgt := 5) hx hb dJ7_fill_53178_17 (by decide) ?_
  refine lv_iload_n hx hb dJ7_fill_53178_5 rfl (lv_at hl 0 rfl) ?_
  refine lv_iload_n hx hb dJ7_fill_53178_6 rfl (lv_at hl 1 rfl) ?_
  refine lv_icmp_ge (tgt := 20) hx hb dJ7_fill_53178_7 (by decide) (fun c => absurd c (by decide)) (fun c_3 => ?_)
  refine lv_aload_n hx hb dJ7_fill_53178_10 rfl (lv_at hl 2 rfl) ?_
  refine lv_iload_n hx hb dJ7_fill_53178_11 rfl (lv_at hl 0 rfl) ?_
  refine lv_iload_n hx hb dJ7_fill_53178_12 rfl (lv_at hl 3 rfl) ?_
  refine sk_iast0 hx hb hK hP hD hS 0 0 rfl rfl (by unfold vp_in; decide) dJ7_fill_53178_13 (fun H locs hP hD hS => ?_)
  refine lv_iinc (v := 2) (lv' := [(2, .int 2), (3, .int 9), (0, .ref ar), (1, .int 0)]) hx hb dJ7_fill_53178_14 hl (k := 0) rfl (by decide) (by decide) rfl (fun ls hl => ?_)
  refine lv_goto (tgt := 5) hx hb dJ7_fill_53178_17 (by decide) ?_
  refine lv_iload_n hx hb dJ7_fill_53178_5 rfl (lv_at hl 0 rfl) ?_
  refine lv_iload_n hx hb dJ7_fill_53178_6 rfl (lv_at hl 1 rfl) ?_
  refine lv_icmp_ge (tgt := 20) hx hb dJ7_fill_53178_7 (by decide) (fun c => absurd c (by decide)) (fun c_5 => ?_)
  refine lv_aload_n hx hb dJ7_fill_53178_10 rfl (lv_at hl 2 rfl) ?_
  refine lv_iload_n hx hb dJ7_fill_53178_11 rfl (lv_at hl 0 rfl) ?_
  refine lv_iload_n hx hb dJ7_fill_53178_12 rfl (lv_at hl 3 rfl) ?_
  refine sk_iast0 hx hb hK hP hD hS 0 0 rfl rfl (by unfold vp_in; decide) dJ7_fill_53178_13 (fun H locs hP hD hS => ?_)
  refine lv_iinc (v := 3) (lv' := [(2, .int 3), (3, .int 9), (0, .ref ar), (1, .int 0)]) hx hb dJ7_fill_53178_14 hl (k := 0) rfl (by decide) (by decide) rfl (fun ls hl => ?_)
  refine lv_goto (tgt := 5) hx hb dJ7_fill_53178_17 (by decide) ?_
  refine lv_iload_n hx hb dJ7_fill_53178_5 rfl (lv_at hl 0 rfl) ?_
  refine lv_iload_n hx hb dJ7_fill_53178_6 rfl (lv_at hl 1 rfl) ?_
  refine lv_icmp_ge (tgt := 20) hx hb dJ7_fill_53178_7 (by decide) (fun c => absurd c (by decide)) (fun c_7 => ?_)
  refine lv_aload_n hx hb dJ7_fill_53178_10 rfl (lv_at hl 2 rfl) ?_
  refine lv_iload_n hx hb dJ7_fill_53178_11 rfl (lv_at hl 0 rfl) ?_
  refine lv_iload_n hx hb dJ7_fill_53178_12 rfl (lv_at hl 3 rfl) ?_
  refine sk_iast0 hx hb hK hP hD hS 0 0 rfl rfl (by unfold vp_in; decide) dJ7_fill_53178_13 (fun H locs hP hD hS => ?_)
  refine lv_iinc (v := 4) (lv' := [(2, .int 4), (3, .int 9), (0, .ref ar), (1, .int 0)]) hx hb dJ7_fill_53178_14 hl (k := 0) rfl (by decide) (by decide) rfl (fun ls hl => ?_)
  refine lv_goto (tgt := 5) hx hb dJ7_fill_53178_17 (by decide) ?_
  refine lv_iload_n hx hb dJ7_fill_53178_5 rfl (lv_at hl 0 rfl) ?_
  refine lv_iload_n hx hb dJ7_fill_53178_6 rfl (lv_at hl 1 rfl) ?_
  refine lv_icmp_ge (tgt := 20) hx hb dJ7_fill_53178_7 (by decide) (fun c => absurd c (by decide)) (fun c_9 => ?_)
  refine lv_aload_n hx hb dJ7_fill_53178_10 rfl (lv_at hl 2 rfl) ?_
  refine lv_iload_n hx hb dJ7_fill_53178_11 rfl (lv_at hl 0 rfl) ?_
  refine lv_iload_n hx hb dJ7_fill_53178_12 rfl (lv_at hl 3 rfl) ?_
  refine sk_iast0 hx hb hK hP hD hS 0 0 rfl rfl (by unfold vp_in; decide) dJ7_fill_53178_13 (fun H locs hP hD hS => ?_)
  refine lv_iinc (v := 5) (lv' := [(2, .int 5), (3, .int 9), (0, .ref ar), (1, .int 0)]) hx hb dJ7_fill_53178_14 hl (k := 0) rfl (by decide) (by decide) rfl (fun ls hl => ?_)
  refine lv_goto (tgt := 5) hx hb dJ7_fill_53178_17 (by decide) ?_
  refine lv_iload_n hx hb dJ7_fill_53178_5 rfl (lv_at hl 0 rfl) ?_
  refine lv_iload_n hx hb dJ7_fill_53178_6 rfl (lv_at hl 1 rfl) ?_
  refine lv_icmp_ge (tgt := 20) hx hb dJ7_fill_53178_7 (by decide) (fun c => absurd c (by decide)) (fun c_11 => ?_)
  refine lv_aload_n hx hb dJ7_fill_53178_10 rfl (lv_at hl 2 rfl) ?_
  refine lv_iload_n hx hb dJ7_fill_53178_11 rfl (lv_at hl 0 rfl) ?_
  refine lv_iload_n hx hb dJ7_fill_53178_12 rfl (lv_at hl 3 rfl) ?_
  refine sk_iast0 hx hb hK hP hD hS 0 0 rfl rfl (by unfold vp_in; decide) dJ7_fill_53178_13 (fun H locs hP hD hS => ?_)
  refine lv_iinc (v := 6) (lv' := [(2, .int 6), (3, .int 9), (0, .ref ar), (1, .int 0)]) hx hb dJ7_fill_53178_14 hl (k := 0) rfl (by decide) (by decide) rfl (fun ls hl => ?_)
  refine lv_goto (tgt := 5) hx hb dJ7_fill_53178_17 (by decide) ?_
  refine lv_iload_n hx hb dJ7_fill_53178_5 rfl (lv_at hl 0 rfl) ?_
  refine lv_iload_n hx hb dJ7_fill_53178_6 rfl (lv_at hl 1 rfl) ?_
  refine lv_icmp_ge (tgt := 20) hx hb dJ7_fill_53178_7 (by decide) (fun c => absurd c (by decide)) (fun c_13 => ?_)
  refine lv_aload_n hx hb dJ7_fill_53178_10 rfl (lv_at hl 2 rfl) ?_
  refine lv_iload_n hx hb dJ7_fill_53178_11 rfl (lv_at hl 0 rfl) ?_
  refine lv_iload_n hx hb dJ7_fill_53178_12 rfl (lv_at hl 3 rfl) ?_
  refine sk_iast0 hx hb hK hP hD hS 0 0 rfl rfl (by unfold vp_in; decide) dJ7_fill_53178_13 (fun H locs hP hD hS => ?_)
  refine lv_iinc (v := 7) (lv' := [(2, .int 7), (3, .int 9), (0, .ref ar), (1, .int 0)]) hx hb dJ7_fill_53178_14 hl (k := 0) rfl (by decide) (by decide) rfl (fun ls hl => ?_)
  refine lv_goto (tgt := 5) hx hb dJ7_fill_53178_17 (by decide) ?_
  refine lv_iload_n hx hb dJ7_fill_53178_5 rfl (lv_at hl 0 rfl) ?_
  refine lv_iload_n hx hb dJ7_fill_53178_6 rfl (lv_at hl 1 rfl) ?_
  refine lv_icmp_ge (tgt := 20) hx hb dJ7_fill_53178_7 (by decide) (fun c => absurd c (by decide)) (fun c_15 => ?_)
  refine lv_aload_n hx hb dJ7_fill_53178_10 rfl (lv_at hl 2 rfl) ?_
  refine lv_iload_n hx hb dJ7_fill_53178_11 rfl (lv_at hl 0 rfl) ?_
  refine lv_iload_n hx hb dJ7_fill_53178_12 rfl (lv_at hl 3 rfl) ?_
  refine sk_iast0 hx hb hK hP hD hS 0 0 rfl rfl (by unfold vp_in; decide) dJ7_fill_53178_13 (fun H locs hP hD hS => ?_)
  refine lv_iinc (v := 8) (lv' := [(2, .int 8), (3, .int 9), (0, .ref ar), (1, .int 0)]) hx hb dJ7_fill_53178_14 hl (k := 0) rfl (by decide) (by decide) rfl (fun ls hl => ?_)
  refine lv_goto (tgt := 5) hx hb dJ7_fill_53178_17 (by decide) ?_
  refine lv_iload_n hx hb dJ7_fill_53178_5 rfl (lv_at hl 0 rfl) ?_
  refine lv_iload_n hx hb dJ7_fill_53178_6 rfl (lv_at hl 1 rfl) ?_
  refine lv_icmp_ge (tgt := 20) hx hb dJ7_fill_53178_7 (by decide) (fun c => absurd c (by decide)) (fun c_17 => ?_)
  refine lv_aload_n hx hb dJ7_fill_53178_10 rfl (lv_at hl 2 rfl) ?_
  refine lv_iload_n hx hb dJ7_fill_53178_11 rfl (lv_at hl 0 rfl) ?_
  refine lv_iload_n hx hb dJ7_fill_53178_12 rfl (lv_at hl 3 rfl) ?_
  refine sk_iast0 hx hb hK hP hD hS 0 0 rfl rfl (by unfold vp_in; decide) dJ7_fill_53178_13 (fun H locs hP hD hS => ?_)
  refine lv_iinc (v := 9) (lv' := [(2, .int 9), (3, .int 9), (0, .ref ar), (1, .int 0)]) hx hb dJ7_fill_53178_14 hl (k := 0) rfl (by decide) (by decide) rfl (fun ls hl => ?_)
  refine lv_goto (tgt := 5) hx hb dJ7_fill_53178_17 (by decide) ?_
  refine lv_iload_n hx hb dJ7_fill_53178_5 rfl (lv_at hl 0 rfl) ?_
  refine lv_iload_n hx hb dJ7_fill_53178_6 rfl (lv_at hl 1 rfl) ?_
  refine lv_icmp_ge (tgt := 20) hx hb dJ7_fill_53178_7 (by decide) (fun c_19 => ?_) (fun c => absurd c (by decide))
  exact sk_vret hx hb hr hlocks hK hP hD hS rfl (Nat.le_of_ble_eq_true rfl) (Nat.le_of_ble_eq_true rfl) dJ7_fill_53178_20
set_option maxHeartbeats 4000000 in
set_option maxRecDepth 100000 in
theorem c_fill_3 (l : Launch) (D : va_G) (cI cJ cC cZ cS : ClassId) (ar : Nat)  : skM l yJ7_fill_53178 cJ7_fill_53178 4 none 0 0 0 0 D (skT cI cJ cC cZ cS) [.ref ar, .int 0] [(ar, .inl (cI, 3, .inl (fun _ => 0)))] (skV D (skT cI cJ cC cZ cS) (fun (u : va_W) => u = [(ar, .inl (cI, 3, .inl (fun _ => 0)))])) := by
  refine skM_of (by decide) (Nat.le_of_ble_eq_true rfl) ?_
  intro p e s m below meth c A ls E hP hD hl
  obtain ⟨hx, hb, hr, hml, hlocks, hin, hown, hts, hK, hA⟩ := E
  have hown : s.vm.findClass RJ7 = some m.cls := hown
  have hS : va_S A s.heap s.heap [] := va_S.rf
  have hl : lv_has ls 4 [(0, .ref ar), (1, .int 0)] := hl
  refine lv_iconst (v := 0) hx hb dJ7_fill_53178_0 (by decide) ?_
  refine lv_istore_n (lv' := [(2, .int 0), (0, .ref ar), (1, .int 0)]) hx hb dJ7_fill_53178_1 rfl hl (by decide) rfl (fun ls hl => ?_)
  refine lv_aload_n hx hb dJ7_fill_53178_2 rfl (lv_at hl 1 rfl) ?_
  refine va_alen (v := 3) hx hb hK.1 hP 0 0 rfl rfl rfl dJ7_fill_53178_3 ?_
  refine lv_istore_n (lv' := [(3, .int 3), (2, .int 0), (0, .ref ar), (1, .int 0)]) hx hb dJ7_fill_53178_4 rfl hl (by decide) rfl (fun ls hl => ?_)
  refine lv_iload_n hx hb dJ7_fill_53178_5 rfl (lv_at hl 1 rfl) ?_
  refine lv_iload_n hx hb dJ7_fill_53178_6 rfl (lv_at hl 0 rfl) ?_
  refine lv_icmp_ge (tgt := 20) hx hb dJ7_fill_53178_7 (by decide) (fun c => absurd c (by decide)) (fun c_1 => ?_)
  refine lv_aload_n hx hb dJ7_fill_53178_10 rfl (lv_at hl 2 rfl) ?_
  refine lv_iload_n hx hb dJ7_fill_53178_11 rfl (lv_at hl 1 rfl) ?_
  refine lv_iload_n hx hb dJ7_fill_53178_12 rfl (lv_at hl 3 rfl) ?_
  refine sk_iast0 hx hb hK hP hD hS 0 0 rfl rfl (by unfold vp_in; decide) dJ7_fill_53178_13 (fun H locs hP hD hS => ?_)
  refine lv_iinc (v := 1) (lv' := [(2, .int 1), (3, .int 3), (0, .ref ar), (1, .int 0)]) hx hb dJ7_fill_53178_14 hl (k := 1) rfl (by decide) (by decide) rfl (fun ls hl => ?_)
  refine lv_goto (tgt := 5) hx hb dJ7_fill_53178_17 (by decide) ?_
  refine lv_iload_n hx hb dJ7_fill_53178_5 rfl (lv_at hl 0 rfl) ?_
  refine lv_iload_n hx hb dJ7_fill_53178_6 rfl (lv_at hl 1 rfl) ?_
  refine lv_icmp_ge (tgt := 20) hx hb dJ7_fill_53178_7 (by decide) (fun c => absurd c (by decide)) (fun c_3 => ?_)
  refine lv_aload_n hx hb dJ7_fill_53178_10 rfl (lv_at hl 2 rfl) ?_
  refine lv_iload_n hx hb dJ7_fill_53178_11 rfl (lv_at hl 0 rfl) ?_
  refine lv_iload_n hx hb dJ7_fill_53178_12 rfl (lv_at hl 3 rfl) ?_
  refine sk_iast0 hx hb hK hP hD hS 0 0 rfl rfl (by unfold vp_in; decide) dJ7_fill_53178_13 (fun H locs hP hD hS => ?_)
  refine lv_iinc (v := 2) (lv' := [(2, .int 2), (3, .int 3), (0, .ref ar), (1, .int 0)]) hx hb dJ7_fill_53178_14 hl (k := 0) rfl (by decide) (by decide) rfl (fun ls hl => ?_)
  refine lv_goto (tgt := 5) hx hb dJ7_fill_53178_17 (by decide) ?_
  refine lv_iload_n hx hb dJ7_fill_53178_5 rfl (lv_at hl 0 rfl) ?_
  refine lv_iload_n hx hb dJ7_fill_53178_6 rfl (lv_at hl 1 rfl) ?_
  refine lv_icmp_ge (tgt := 20) hx hb dJ7_fill_53178_7 (by decide) (fun c => absurd c (by decide)) (fun c_5 => ?_)
  refine lv_aload_n hx hb dJ7_fill_53178_10 rfl (lv_at hl 2 rfl) ?_
  refine lv_iload_n hx hb dJ7_fill_53178_11 rfl (lv_at hl 0 rfl) ?_
  refine lv_iload_n hx hb dJ7_fill_53178_12 rfl (lv_at hl 3 rfl) ?_
  refine sk_iast0 hx hb hK hP hD hS 0 0 rfl rfl (by unfold vp_in; decide) dJ7_fill_53178_13 (fun H locs hP hD hS => ?_)
  refine lv_iinc (v := 3) (lv' := [(2, .int 3), (3, .int 3), (0, .ref ar), (1, .int 0)]) hx hb dJ7_fill_53178_14 hl (k := 0) rfl (by decide) (by decide) rfl (fun ls hl => ?_)
  refine lv_goto (tgt := 5) hx hb dJ7_fill_53178_17 (by decide) ?_
  refine lv_iload_n hx hb dJ7_fill_53178_5 rfl (lv_at hl 0 rfl) ?_
  refine lv_iload_n hx hb dJ7_fill_53178_6 rfl (lv_at hl 1 rfl) ?_
  refine lv_icmp_ge (tgt := 20) hx hb dJ7_fill_53178_7 (by decide) (fun c_7 => ?_) (fun c => absurd c (by decide))
  exact sk_vret hx hb hr hlocks hK hP hD hS rfl (Nat.le_of_ble_eq_true rfl) (Nat.le_of_ble_eq_true rfl) dJ7_fill_53178_20
theorem dX0_clear_0 : decode cX0_clear 0 = .ok (.aload_n 0, 1) := by decide +kernel
theorem dX0_clear_1 : decode cX0_clear 1 = .ok (.iconst 0, 1) := by decide +kernel
theorem dX0_clear_2 : decode cX0_clear 2 = .ok (.putfield 27, 3) := by decide +kernel
theorem dX0_clear_5 : decode cX0_clear 5 = .ok (.aload_n 0, 1) := by decide +kernel
theorem dX0_clear_6 : decode cX0_clear 6 = .ok (.iconst 0, 1) := by decide +kernel
theorem dX0_clear_7 : decode cX0_clear 7 = .ok (.putfield 31, 3) := by decide +kernel
theorem dX0_clear_10 : decode cX0_clear 10 = .ok (.return_, 1) := by decide +kernel
theorem w_2_217 : (Cond.code yX0_clear cX0_clear 1 none) ∈ wsL_law := sk_mem (ck_2 _ (List.mem_of_getElem? (i := 217) rfl)) rfl
set_option maxHeartbeats 4000000 in
set_option maxRecDepth 100000 in
theorem c_code_clear (l : Launch) (D : va_G) (cI cJ cC cZ cS : ClassId) (q : Nat → Nat)  : skM l yX0_clear cX0_clear 1 none 0 0 0 0 D (skT cI cJ cC cZ cS) [.ref (q 24)] [(q 24, .inr (0, [.ref (q 29), .ref (q 30), .ref (q 31), .ref (q 32), .int 0, .int 0]))] (skV D (skT cI cJ cC cZ cS) (fun (u : va_W) => u = [(q 24, .inr (0, [.ref (q 29), .ref (q 30), .ref (q 31), .ref (q 32), .int 0, .int 0]))])) := by
  refine skM_of (by decide) (Nat.le_of_ble_eq_true rfl) ?_
  intro p e s m below meth c A ls E hP hD hl
  obtain ⟨hx, hb, hr, hml, hlocks, hin, hown, hts, hK, hA⟩ := E
  have hown : s.vm.findClass RX0 = some m.cls := hown
  have hS : va_S A s.heap s.heap [] := va_S.rf
  have hl : lv_has ls 1 [(0, .ref (q 24))] := hl
  refine lv_aload_n hx hb dX0_clear_0 rfl (lv_at hl 0 rfl) ?_
  refine lv_iconst (v := 0) hx hb dX0_clear_1 (by decide) ?_
  refine sk_put (ws' := [(q 24, .inr (0, [.ref (q 29), .ref (q 30), .ref (q 31), .ref (q 32), .int 0, .int 0]))]) (C := RX0) (T := TX0) (N := 6) (v := .int 0) hx hb hts inlX0 tyX0 tyX0_ok nmX0 hown hK hP hD hS 0 rfl rfl 4 (by decide) w_1_133 rfl rfl rfl (Nat.le_of_ble_eq_true rfl) rfl dX0_clear_2 (fun H locs hP hD hS => ?_)
  refine lv_aload_n hx hb dX0_clear_5 rfl (lv_at hl 0 rfl) ?_
  refine lv_iconst (v := 0) hx hb dX0_clear_6 (by decide) ?_
  refine sk_put (ws' := [(q 24, .inr (0, [.ref (q 29), .ref (q 30), .ref (q 31), .ref (q 32), .int 0, .int 0]))]) (C := RX0) (T := TX0) (N := 6) (v := .int 0) hx hb hts inlX0 tyX0 tyX0_ok nmX0 hown hK hP hD hS 0 rfl rfl 5 (by decide) w_1_136 rfl rfl rfl (Nat.le_of_ble_eq_true rfl) rfl dX0_clear_7 (fun H locs hP hD hS => ?_)
  exact sk_vret hx hb hr hlocks hK hP hD hS rfl (Nat.le_of_ble_eq_true rfl) (Nat.le_of_ble_eq_true rfl) dX0_clear_10
theorem dX2_clear_0 : decode cX2_clear 0 = .ok (.aload_n 0, 1) := by decide +kernel
theorem dX2_clear_1 : decode cX2_clear 1 = .ok (.getfield 12, 3) := by decide +kernel
theorem dX2_clear_4 : decode cX2_clear 4 = .ok (.invokevirtual 47, 3) := by decide +kernel
theorem dX2_clear_7 : decode cX2_clear 7 = .ok (.aload_n 0, 1) := by decide +kernel
theorem dX2_clear_8 : decode cX2_clear 8 = .ok (.getfield 18, 3) := by decide +kernel
theorem dX2_clear_11 : decode cX2_clear 11 = .ok (.iconst 0, 1) := by decide +kernel
theorem dX2_clear_12 : decode cX2_clear 12 = .ok (.invokestatic 50, 3) := by decide +kernel
theorem dX2_clear_15 : decode cX2_clear 15 = .ok (.aload_n 0, 1) := by decide +kernel
theorem dX2_clear_16 : decode cX2_clear 16 = .ok (.getfield 22, 3) := by decide +kernel
theorem dX2_clear_19 : decode cX2_clear 19 = .ok (.iconst 0, 1) := by decide +kernel
theorem dX2_clear_20 : decode cX2_clear 20 = .ok (.invokestatic 50, 3) := by decide +kernel
theorem dX2_clear_23 : decode cX2_clear 23 = .ok (.aload_n 0, 1) := by decide +kernel
theorem dX2_clear_24 : decode cX2_clear 24 = .ok (.getfield 25, 3) := by decide +kernel
theorem dX2_clear_27 : decode cX2_clear 27 = .ok (.iconst 0, 1) := by decide +kernel
theorem dX2_clear_28 : decode cX2_clear 28 = .ok (.invokestatic 50, 3) := by decide +kernel
theorem dX2_clear_31 : decode cX2_clear 31 = .ok (.aload_n 0, 1) := by decide +kernel
theorem dX2_clear_32 : decode cX2_clear 32 = .ok (.getfield 28, 3) := by decide +kernel
theorem dX2_clear_35 : decode cX2_clear 35 = .ok (.iconst 0, 1) := by decide +kernel
theorem dX2_clear_36 : decode cX2_clear 36 = .ok (.invokestatic 50, 3) := by decide +kernel
theorem dX2_clear_39 : decode cX2_clear 39 = .ok (.aload_n 0, 1) := by decide +kernel
theorem dX2_clear_40 : decode cX2_clear 40 = .ok (.iconst 0, 1) := by decide +kernel
theorem dX2_clear_41 : decode cX2_clear 41 = .ok (.putfield 38, 3) := by decide +kernel
theorem dX2_clear_44 : decode cX2_clear 44 = .ok (.aload_n 0, 1) := by decide +kernel
theorem dX2_clear_45 : decode cX2_clear 45 = .ok (.iconst 0, 1) := by decide +kernel
theorem dX2_clear_46 : decode cX2_clear 46 = .ok (.putfield 41, 3) := by decide +kernel
theorem dX2_clear_49 : decode cX2_clear 49 = .ok (.aload_n 0, 1) := by decide +kernel
theorem dX2_clear_50 : decode cX2_clear 50 = .ok (.iconst 0, 1) := by decide +kernel
theorem dX2_clear_51 : decode cX2_clear 51 = .ok (.putfield 44, 3) := by decide +kernel
theorem dX2_clear_54 : decode cX2_clear 54 = .ok (.return_, 1) := by decide +kernel
theorem w_2_214 : (Cond.methodLink RX2 47 yX0_clear) ∈ wsL_law := sk_mem (ck_2 _ (List.mem_of_getElem? (i := 214) rfl)) rfl
theorem w_2_215 : (Cond.instanceMethod yX0_clear) ∈ wsL_law := sk_mem (ck_2 _ (List.mem_of_getElem? (i := 215) rfl)) rfl
theorem w_2_216 : (Cond.selects RX0 yX0_clear yX0_clear) ∈ wsL_law := sk_mem (ck_2 _ (List.mem_of_getElem? (i := 216) rfl)) rfl
theorem w_2_218 : (Cond.methodLink RX2 50 yJ7_fill_53178) ∈ wsL_law := sk_mem (ck_2 _ (List.mem_of_getElem? (i := 218) rfl)) rfl
theorem w_2_219 : (Cond.static yJ7_fill_53178) ∈ wsL_law := sk_mem (ck_2 _ (List.mem_of_getElem? (i := 219) rfl)) rfl
theorem w_1_15 : (Cond.initialized RJ7) ∈ wsL_law := sk_mem (ck_1 _ (List.mem_of_getElem? (i := 15) rfl)) rfl
theorem w_2_213 : (Cond.code yX2_clear cX2_clear 1 none) ∈ wsL_law := sk_mem (ck_2 _ (List.mem_of_getElem? (i := 213) rfl)) rfl
set_option maxHeartbeats 4000000 in
set_option maxRecDepth 100000 in
theorem c_lock_clear (l : Launch) (D : va_G) (cI cJ cC cZ cS : ClassId) (q : Nat → Nat)  : skM l yX2_clear cX2_clear 1 none 1 23 0 0 D (skT cI cJ cC cZ cS) [.ref (q 6)] [(q 6, .inr (2, [.ref (q 24), .ref (q 25), .ref (q 26), .ref (q 27), .ref (q 28), .int 0, .int 0, .int 0, .int 0, .int 0])), (q 24, .inr (0, [.ref (q 29), .ref (q 30), .ref (q 31), .ref (q 32), .int 0, .int 0])), (q 25, .inl (cI, 9, .inl (fun _ => 0))), (q 26, .inl (cI, 9, .inl (fun _ => 0))), (q 27, .inl (cI, 3, .inl (fun _ => 0))), (q 28, .inl (cI, 3, .inl (fun _ => 0)))] (skV D (skT cI cJ cC cZ cS) (fun (u : va_W) => u = [(q 6, .inr (2, [.ref (q 24), .ref (q 25), .ref (q 26), .ref (q 27), .ref (q 28), .int 0, .int 0, .int 0, .int 0, .int 0])), (q 24, .inr (0, [.ref (q 29), .ref (q 30), .ref (q 31), .ref (q 32), .int 0, .int 0])), (q 25, .inl (cI, 9, .inl (fun _ => 0))), (q 26, .inl (cI, 9, .inl (fun _ => 0))), (q 27, .inl (cI, 3, .inl (fun _ => 0))), (q 28, .inl (cI, 3, .inl (fun _ => 0)))])) := by
  refine skM_of (by decide) (Nat.le_of_ble_eq_true rfl) ?_
  intro p e s m below meth c A ls E hP hD hl
  obtain ⟨hx, hb, hr, hml, hlocks, hin, hown, hts, hK, hA⟩ := E
  have hown : s.vm.findClass RX2 = some m.cls := hown
  have hS : va_S A s.heap s.heap [] := va_S.rf
  have hl : lv_has ls 1 [(0, .ref (q 6))] := hl
  refine lv_aload_n hx hb dX2_clear_0 rfl (lv_at hl 0 rfl) ?_
  refine sk_get (v := .ref (q 24)) (C := RX2) (T := TX2) (N := 10) hx hb hts inlX2 hown hK hP 0 rfl rfl 0 (by decide) w_1_175 rfl dX2_clear_1 ?_
  refine sk_Vv (q0 := 0) (n := 0) (rest := []) (wr := [(q 6, .inr (2, [.ref (q 24), .ref (q 25), .ref (q 26), .ref (q 27), .ref (q 28), .int 0, .int 0, .int 0, .int 0, .int 0])), (q 25, .inl (cI, 9, .inl (fun _ => 0))), (q 26, .inl (cI, 9, .inl (fun _ => 0))), (q 27, .inl (cI, 3, .inl (fun _ => 0))), (q 28, .inl (cI, 3, .inl (fun _ => 0)))]) ⟨hx, hb, hml, hown, hts⟩ hl.1 (c_code_clear l D cI cJ cC cZ cS q) w_2_214 w_2_215 w_2_216 w_1_8 w_2_217 (by decide +kernel) ⟨⟨(Nat.le_of_ble_eq_true rfl), (Nat.le_of_ble_eq_true rfl)⟩, (Nat.le_of_ble_eq_true rfl), (Nat.le_of_ble_eq_true rfl)⟩ hK hP hD hS hA [1] [0, 2, 3, 4, 5] rfl rfl (by decide) (by decide) (by decide) rfl rfl rfl rfl (Nat.le_of_ble_eq_true rfl) dX2_clear_4 (fun u H locs hw hP hD hS => ?_)
  obtain rfl := hw
  have hP : va_P D vwCl [(q 6, .inr (2, [.ref (q 24), .ref (q 25), .ref (q 26), .ref (q 27), .ref (q 28), .int 0, .int 0, .int 0, .int 0, .int 0])), (q 25, .inl (cI, 9, .inl (fun _ => 0))), (q 26, .inl (cI, 9, .inl (fun _ => 0))), (q 27, .inl (cI, 3, .inl (fun _ => 0))), (q 28, .inl (cI, 3, .inl (fun _ => 0))), (q 24, .inr (0, [.ref (q 29), .ref (q 30), .ref (q 31), .ref (q 32), .int 0, .int 0]))] H := hP
  have hD : va_D A [(q 6, .inr (2, [.ref (q 24), .ref (q 25), .ref (q 26), .ref (q 27), .ref (q 28), .int 0, .int 0, .int 0, .int 0, .int 0])), (q 25, .inl (cI, 9, .inl (fun _ => 0))), (q 26, .inl (cI, 9, .inl (fun _ => 0))), (q 27, .inl (cI, 3, .inl (fun _ => 0))), (q 28, .inl (cI, 3, .inl (fun _ => 0))), (q 24, .inr (0, [.ref (q 29), .ref (q 30), .ref (q 31), .ref (q 32), .int 0, .int 0]))] := hD
  refine W.widen (k := 0) (n := 0) (Nat.le_of_ble_eq_true rfl) (Nat.le_of_ble_eq_true rfl) ?_
  refine lv_aload_n hx hb dX2_clear_7 rfl (lv_at hl 0 rfl) ?_
  refine sk_get (v := .ref (q 25)) (C := RX2) (T := TX2) (N := 10) hx hb hts inlX2 hown hK hP 0 rfl rfl 1 (by decide) w_1_178 rfl dX2_clear_8 ?_
  refine lv_iconst (v := 0) hx hb dX2_clear_11 (by decide) ?_
  refine sk_Sv (n := 2) (rest := []) (wr := [(q 6, .inr (2, [.ref (q 24), .ref (q 25), .ref (q 26), .ref (q 27), .ref (q 28), .int 0, .int 0, .int 0, .int 0, .int 0])), (q 26, .inl (cI, 9, .inl (fun _ => 0))), (q 27, .inl (cI, 3, .inl (fun _ => 0))), (q 28, .inl (cI, 3, .inl (fun _ => 0))), (q 24, .inr (0, [.ref (q 29), .ref (q 30), .ref (q 31), .ref (q 32), .int 0, .int 0]))]) ⟨hx, hb, hml, hown, hts⟩ hl.1 (c_fill_9 l D cI cJ cC cZ cS (q 25)) w_2_218 w_2_219 w_1_15 w_2_220 (by decide +kernel) ⟨⟨(Nat.le_of_ble_eq_true rfl), (Nat.le_of_ble_eq_true rfl)⟩, (Nat.le_of_ble_eq_true rfl), (Nat.le_of_ble_eq_true rfl)⟩ hK hP hD hS hA [1] [0, 2, 3, 4, 5] rfl rfl (by decide) (by decide) (by decide) rfl rfl (Nat.le_of_ble_eq_true rfl) dX2_clear_12 (fun u H locs hw hP hD hS => ?_)
  obtain rfl := hw
  have hP : va_P D vwCl [(q 6, .inr (2, [.ref (q 24), .ref (q 25), .ref (q 26), .ref (q 27), .ref (q 28), .int 0, .int 0, .int 0, .int 0, .int 0])), (q 26, .inl (cI, 9, .inl (fun _ => 0))), (q 27, .inl (cI, 3, .inl (fun _ => 0))), (q 28, .inl (cI, 3, .inl (fun _ => 0))), (q 24, .inr (0, [.ref (q 29), .ref (q 30), .ref (q 31), .ref (q 32), .int 0, .int 0])), (q 25, .inl (cI, 9, .inl (fun _ => 0)))] H := hP
  have hD : va_D A [(q 6, .inr (2, [.ref (q 24), .ref (q 25), .ref (q 26), .ref (q 27), .ref (q 28), .int 0, .int 0, .int 0, .int 0, .int 0])), (q 26, .inl (cI, 9, .inl (fun _ => 0))), (q 27, .inl (cI, 3, .inl (fun _ => 0))), (q 28, .inl (cI, 3, .inl (fun _ => 0))), (q 24, .inr (0, [.ref (q 29), .ref (q 30), .ref (q 31), .ref (q 32), .int 0, .int 0])), (q 25, .inl (cI, 9, .inl (fun _ => 0)))] := hD
  refine W.widen (k := 0) (n := 0) (Nat.le_of_ble_eq_true rfl) (Nat.le_of_ble_eq_true rfl) ?_
  refine lv_aload_n hx hb dX2_clear_15 rfl (lv_at hl 0 rfl) ?_
  refine sk_get (v := .ref (q 26)) (C := RX2) (T := TX2) (N := 10) hx hb hts inlX2 hown hK hP 0 rfl rfl 2 (by decide) w_1_181 rfl dX2_clear_16 ?_
  refine lv_iconst (v := 0) hx hb dX2_clear_19 (by decide) ?_
  refine sk_Sv (n := 2) (rest := []) (wr := [(q 6, .inr (2, [.ref (q 24), .ref (q 25), .ref (q 26), .ref (q 27), .ref (q 28), .int 0, .int 0, .int 0, .int 0, .int 0])), (q 27, .inl (cI, 3, .inl (fun _ => 0))), (q 28, .inl (cI, 3, .inl (fun _ => 0))), (q 24, .inr (0, [.ref (q 29), .ref (q 30), .ref (q 31), .ref (q 32), .int 0, .int 0])), (q 25, .inl (cI, 9, .inl (fun _ => 0)))]) ⟨hx, hb, hml, hown, hts⟩ hl.1 (c_fill_9 l D cI cJ cC cZ cS (q 26)) w_2_218 w_2_219 w_1_15 w_2_220 (by decide +kernel) ⟨⟨(Nat.le_of_ble_eq_true rfl), (Nat.le_of_ble_eq_true rfl)⟩, (Nat.le_of_ble_eq_true rfl), (Nat.le_of_ble_eq_true rfl)⟩ hK hP hD hS hA [1] [0, 2, 3, 4, 5] rfl rfl (by decide) (by decide) (by decide) rfl rfl (Nat.le_of_ble_eq_true rfl) dX2_clear_20 (fun u H locs hw hP hD hS => ?_)
  obtain rfl := hw
  have hP : va_P D vwCl [(q 6, .inr (2, [.ref (q 24), .ref (q 25), .ref (q 26), .ref (q 27), .ref (q 28), .int 0, .int 0, .int 0, .int 0, .int 0])), (q 27, .inl (cI, 3, .inl (fun _ => 0))), (q 28, .inl (cI, 3, .inl (fun _ => 0))), (q 24, .inr (0, [.ref (q 29), .ref (q 30), .ref (q 31), .ref (q 32), .int 0, .int 0])), (q 25, .inl (cI, 9, .inl (fun _ => 0))), (q 26, .inl (cI, 9, .inl (fun _ => 0)))] H := hP
  have hD : va_D A [(q 6, .inr (2, [.ref (q 24), .ref (q 25), .ref (q 26), .ref (q 27), .ref (q 28), .int 0, .int 0, .int 0, .int 0, .int 0])), (q 27, .inl (cI, 3, .inl (fun _ => 0))), (q 28, .inl (cI, 3, .inl (fun _ => 0))), (q 24, .inr (0, [.ref (q 29), .ref (q 30), .ref (q 31), .ref (q 32), .int 0, .int 0])), (q 25, .inl (cI, 9, .inl (fun _ => 0))), (q 26, .inl (cI, 9, .inl (fun _ => 0)))] := hD
  refine W.widen (k := 0) (n := 0) (Nat.le_of_ble_eq_true rfl) (Nat.le_of_ble_eq_true rfl) ?_
  refine lv_aload_n hx hb dX2_clear_23 rfl (lv_at hl 0 rfl) ?_
  refine sk_get (v := .ref (q 27)) (C := RX2) (T := TX2) (N := 10) hx hb hts inlX2 hown hK hP 0 rfl rfl 3 (by decide) w_1_184 rfl dX2_clear_24 ?_
  refine lv_iconst (v := 0) hx hb dX2_clear_27 (by decide) ?_
  refine sk_Sv (n := 2) (rest := []) (wr := [(q 6, .inr (2, [.ref (q 24), .ref (q 25), .ref (q 26), .ref (q 27), .ref (q 28), .int 0, .int 0, .int 0, .int 0, .int 0])), (q 28, .inl (cI, 3, .inl (fun _ => 0))), (q 24, .inr (0, [.ref (q 29), .ref (q 30), .ref (q 31), .ref (q 32), .int 0, .int 0])), (q 25, .inl (cI, 9, .inl (fun _ => 0))), (q 26, .inl (cI, 9, .inl (fun _ => 0)))]) ⟨hx, hb, hml, hown, hts⟩ hl.1 (c_fill_3 l D cI cJ cC cZ cS (q 27)) w_2_218 w_2_219 w_1_15 w_2_220 (by decide +kernel) ⟨⟨(Nat.le_of_ble_eq_true rfl), (Nat.le_of_ble_eq_true rfl)⟩, (Nat.le_of_ble_eq_true rfl), (Nat.le_of_ble_eq_true rfl)⟩ hK hP hD hS hA [1] [0, 2, 3, 4, 5] rfl rfl (by decide) (by decide) (by decide) rfl rfl (Nat.le_of_ble_eq_true rfl) dX2_clear_28 (fun u H locs hw hP hD hS => ?_)
  obtain rfl := hw
  have hP : va_P D vwCl [(q 6, .inr (2, [.ref (q 24), .ref (q 25), .ref (q 26), .ref (q 27), .ref (q 28), .int 0, .int 0, .int 0, .int 0, .int 0])), (q 28, .inl (cI, 3, .inl (fun _ => 0))), (q 24, .inr (0, [.ref (q 29), .ref (q 30), .ref (q 31), .ref (q 32), .int 0, .int 0])), (q 25, .inl (cI, 9, .inl (fun _ => 0))), (q 26, .inl (cI, 9, .inl (fun _ => 0))), (q 27, .inl (cI, 3, .inl (fun _ => 0)))] H := hP
  have hD : va_D A [(q 6, .inr (2, [.ref (q 24), .ref (q 25), .ref (q 26), .ref (q 27), .ref (q 28), .int 0, .int 0, .int 0, .int 0, .int 0])), (q 28, .inl (cI, 3, .inl (fun _ => 0))), (q 24, .inr (0, [.ref (q 29), .ref (q 30), .ref (q 31), .ref (q 32), .int 0, .int 0])), (q 25, .inl (cI, 9, .inl (fun _ => 0))), (q 26, .inl (cI, 9, .inl (fun _ => 0))), (q 27, .inl (cI, 3, .inl (fun _ => 0)))] := hD
  refine W.widen (k := 0) (n := 0) (Nat.le_of_ble_eq_true rfl) (Nat.le_of_ble_eq_true rfl) ?_
  refine lv_aload_n hx hb dX2_clear_31 rfl (lv_at hl 0 rfl) ?_
  refine sk_get (v := .ref (q 28)) (C := RX2) (T := TX2) (N := 10) hx hb hts inlX2 hown hK hP 0 rfl rfl 4 (by decide) w_1_186 rfl dX2_clear_32 ?_
  refine lv_iconst (v := 0) hx hb dX2_clear_35 (by decide) ?_
  refine sk_Sv (n := 2) (rest := []) (wr := [(q 6, .inr (2, [.ref (q 24), .ref (q 25), .ref (q 26), .ref (q 27), .ref (q 28), .int 0, .int 0, .int 0, .int 0, .int 0])), (q 24, .inr (0, [.ref (q 29), .ref (q 30), .ref (q 31), .ref (q 32), .int 0, .int 0])), (q 25, .inl (cI, 9, .inl (fun _ => 0))), (q 26, .inl (cI, 9, .inl (fun _ => 0))), (q 27, .inl (cI, 3, .inl (fun _ => 0)))]) ⟨hx, hb, hml, hown, hts⟩ hl.1 (c_fill_3 l D cI cJ cC cZ cS (q 28)) w_2_218 w_2_219 w_1_15 w_2_220 (by decide +kernel) ⟨⟨(Nat.le_of_ble_eq_true rfl), (Nat.le_of_ble_eq_true rfl)⟩, (Nat.le_of_ble_eq_true rfl), (Nat.le_of_ble_eq_true rfl)⟩ hK hP hD hS hA [1] [0, 2, 3, 4, 5] rfl rfl (by decide) (by decide) (by decide) rfl rfl (Nat.le_of_ble_eq_true rfl) dX2_clear_36 (fun u H locs hw hP hD hS => ?_)
  obtain rfl := hw
  have hP : va_P D vwCl [(q 6, .inr (2, [.ref (q 24), .ref (q 25), .ref (q 26), .ref (q 27), .ref (q 28), .int 0, .int 0, .int 0, .int 0, .int 0])), (q 24, .inr (0, [.ref (q 29), .ref (q 30), .ref (q 31), .ref (q 32), .int 0, .int 0])), (q 25, .inl (cI, 9, .inl (fun _ => 0))), (q 26, .inl (cI, 9, .inl (fun _ => 0))), (q 27, .inl (cI, 3, .inl (fun _ => 0))), (q 28, .inl (cI, 3, .inl (fun _ => 0)))] H := hP
  have hD : va_D A [(q 6, .inr (2, [.ref (q 24), .ref (q 25), .ref (q 26), .ref (q 27), .ref (q 28), .int 0, .int 0, .int 0, .int 0, .int 0])), (q 24, .inr (0, [.ref (q 29), .ref (q 30), .ref (q 31), .ref (q 32), .int 0, .int 0])), (q 25, .inl (cI, 9, .inl (fun _ => 0))), (q 26, .inl (cI, 9, .inl (fun _ => 0))), (q 27, .inl (cI, 3, .inl (fun _ => 0))), (q 28, .inl (cI, 3, .inl (fun _ => 0)))] := hD
  refine W.widen (k := 0) (n := 0) (Nat.le_of_ble_eq_true rfl) (Nat.le_of_ble_eq_true rfl) ?_
  refine lv_aload_n hx hb dX2_clear_39 rfl (lv_at hl 0 rfl) ?_
  refine lv_iconst (v := 0) hx hb dX2_clear_40 (by decide) ?_
  refine sk_put (ws' := [(q 6, .inr (2, [.ref (q 24), .ref (q 25), .ref (q 26), .ref (q 27), .ref (q 28), .int 0, .int 0, .int 0, .int 0, .int 0])), (q 24, .inr (0, [.ref (q 29), .ref (q 30), .ref (q 31), .ref (q 32), .int 0, .int 0])), (q 25, .inl (cI, 9, .inl (fun _ => 0))), (q 26, .inl (cI, 9, .inl (fun _ => 0))), (q 27, .inl (cI, 3, .inl (fun _ => 0))), (q 28, .inl (cI, 3, .inl (fun _ => 0)))]) (C := RX2) (T := TX2) (N := 10) (v := .int 0) hx hb hts inlX2 tyX2 tyX2_ok nmX2 hown hK hP hD hS 0 rfl rfl 7 (by decide) w_1_194 rfl rfl rfl (Nat.le_of_ble_eq_true rfl) rfl dX2_clear_41 (fun H locs hP hD hS => ?_)
  refine lv_aload_n hx hb dX2_clear_44 rfl (lv_at hl 0 rfl) ?_
  refine lv_iconst (v := 0) hx hb dX2_clear_45 (by decide) ?_
  refine sk_put (ws' := [(q 6, .inr (2, [.ref (q 24), .ref (q 25), .ref (q 26), .ref (q 27), .ref (q 28), .int 0, .int 0, .int 0, .int 0, .int 0])), (q 24, .inr (0, [.ref (q 29), .ref (q 30), .ref (q 31), .ref (q 32), .int 0, .int 0])), (q 25, .inl (cI, 9, .inl (fun _ => 0))), (q 26, .inl (cI, 9, .inl (fun _ => 0))), (q 27, .inl (cI, 3, .inl (fun _ => 0))), (q 28, .inl (cI, 3, .inl (fun _ => 0)))]) (C := RX2) (T := TX2) (N := 10) (v := .int 0) hx hb hts inlX2 tyX2 tyX2_ok nmX2 hown hK hP hD hS 0 rfl rfl 8 (by decide) w_1_197 rfl rfl rfl (Nat.le_of_ble_eq_true rfl) rfl dX2_clear_46 (fun H locs hP hD hS => ?_)
  refine lv_aload_n hx hb dX2_clear_49 rfl (lv_at hl 0 rfl) ?_
  refine lv_iconst (v := 0) hx hb dX2_clear_50 (by decide) ?_
  refine sk_put (ws' := [(q 6, .inr (2, [.ref (q 24), .ref (q 25), .ref (q 26), .ref (q 27), .ref (q 28), .int 0, .int 0, .int 0, .int 0, .int 0])), (q 24, .inr (0, [.ref (q 29), .ref (q 30), .ref (q 31), .ref (q 32), .int 0, .int 0])), (q 25, .inl (cI, 9, .inl (fun _ => 0))), (q 26, .inl (cI, 9, .inl (fun _ => 0))), (q 27, .inl (cI, 3, .inl (fun _ => 0))), (q 28, .inl (cI, 3, .inl (fun _ => 0)))]) (C := RX2) (T := TX2) (N := 10) (v := .int 0) hx hb hts inlX2 tyX2 tyX2_ok nmX2 hown hK hP hD hS 0 rfl rfl 9 (by decide) w_1_200 rfl rfl rfl (Nat.le_of_ble_eq_true rfl) rfl dX2_clear_51 (fun H locs hP hD hS => ?_)
  exact sk_vret hx hb hr hlocks hK hP hD hS rfl (Nat.le_of_ble_eq_true rfl) (Nat.le_of_ble_eq_true rfl) dX2_clear_54
theorem dX6_step_0 : decode cX6_step 0 = .ok (.aload_n 0, 1) := by decide +kernel
theorem dX6_step_1 : decode cX6_step 1 = .ok (.getfield 27, 3) := by decide +kernel
theorem dX6_step_4 : decode cX6_step 4 = .ok (.ifCond .eq 4, 3) := by decide +kernel
theorem dX6_step_8 : decode cX6_step 8 = .ok (.aload_n 0, 1) := by decide +kernel
theorem dX6_step_9 : decode cX6_step 9 = .ok (.getfield 21, 3) := by decide +kernel
theorem dX6_step_12 : decode cX6_step 12 = .ok (.bipush (-3), 2) := by decide +kernel
theorem dX6_step_14 : decode cX6_step 14 = .ok (.if_icmp .eq 13, 3) := by decide +kernel
theorem dX6_step_17 : decode cX6_step 17 = .ok (.aload_n 0, 1) := by decide +kernel
theorem dX6_step_18 : decode cX6_step 18 = .ok (.getfield 21, 3) := by decide +kernel
theorem dX6_step_21 : decode cX6_step 21 = .ok (.sipush 256, 3) := by decide +kernel
theorem dX6_step_24 : decode cX6_step 24 = .ok (.if_icmp .lt 10, 3) := by decide +kernel
theorem dX6_step_34 : decode cX6_step 34 = .ok (.iconst (-1), 1) := by decide +kernel
theorem dX6_step_35 : decode cX6_step 35 = .ok (.istore_n 1, 1) := by decide +kernel
theorem dX6_step_36 : decode cX6_step 36 = .ok (.aload_n 0, 1) := by decide +kernel
theorem dX6_step_37 : decode cX6_step 37 = .ok (.getfield 9, 3) := by decide +kernel
theorem dX6_step_40 : decode cX6_step 40 = .ok (.aload_n 0, 1) := by decide +kernel
theorem dX6_step_41 : decode cX6_step 41 = .ok (.getfield 33, 3) := by decide +kernel
theorem dX6_step_44 : decode cX6_step 44 = .ok (.getfield 44, 3) := by decide +kernel
theorem dX6_step_47 : decode cX6_step 47 = .ok (.if_icmp .ge 50, 3) := by decide +kernel
theorem dX6_step_97 : decode cX6_step 97 = .ok (.aload_n 0, 1) := by decide +kernel
theorem dX6_step_98 : decode cX6_step 98 = .ok (.aload_n 0, 1) := by decide +kernel
theorem dX6_step_99 : decode cX6_step 99 = .ok (.getfield 9, 3) := by decide +kernel
theorem dX6_step_102 : decode cX6_step 102 = .ok (.putfield 24, 3) := by decide +kernel
theorem dX6_step_105 : decode cX6_step 105 = .ok (.aload_n 0, 1) := by decide +kernel
theorem dX6_step_106 : decode cX6_step 106 = .ok (.getfield 9, 3) := by decide +kernel
theorem dX6_step_109 : decode cX6_step 109 = .ok (.aload_n 0, 1) := by decide +kernel
theorem dX6_step_110 : decode cX6_step 110 = .ok (.getfield 33, 3) := by decide +kernel
theorem dX6_step_113 : decode cX6_step 113 = .ok (.getfield 44, 3) := by decide +kernel
theorem dX6_step_116 : decode cX6_step 116 = .ok (.if_icmp .lt 9, 3) := by decide +kernel
theorem dX6_step_119 : decode cX6_step 119 = .ok (.aload_n 0, 1) := by decide +kernel
theorem dX6_step_120 : decode cX6_step 120 = .ok (.iconst (-1), 1) := by decide +kernel
theorem dX6_step_121 : decode cX6_step 121 = .ok (.putfield 21, 3) := by decide +kernel
theorem dX6_step_124 : decode cX6_step 124 = .ok (.return_, 1) := by decide +kernel
theorem w_1_43 : (Cond.fieldLink RX6 44 "SameKeeper$Tape" "length" "I") ∈ wsL_law := sk_mem (ck_1 _ (List.mem_of_getElem? (i := 43) rfl)) rfl
theorem w_2_228 : (Cond.code yX6_step cX6_step 3 none) ∈ wsL_law := sk_mem (ck_2 _ (List.mem_of_getElem? (i := 228) rfl)) rfl
set_option maxHeartbeats 4000000 in
set_option maxRecDepth 100000 in
theorem c_rd_step (l : Launch) (D : va_G) (cI cJ cC cZ cS : ClassId) (q : Nat → Nat)  : skM l yX6_step cX6_step 3 none 0 0 0 0 D (skT cI cJ cC cZ cS) [.ref (q 2)] [(q 2, .inr (6, [.ref (q 0), .int 0, .int 0, .int 0, .int (-1), .int 0, .int 0, .int (-1)])), (q 0, .inr (10, [.ref (q 20), .int 0]))] (skV D (skT cI cJ cC cZ cS) (fun (u : va_W) => u = [(q 2, .inr (6, [.ref (q 0), .int 0, .int 0, .int 0, .int (-1), .int 0, .int 0, .int (-1)])), (q 0, .inr (10, [.ref (q 20), .int 0]))])) := by
  refine skM_of (by decide) (Nat.le_of_ble_eq_true rfl) ?_
  intro p e s m below meth c A ls E hP hD hl
  obtain ⟨hx, hb, hr, hml, hlocks, hin, hown, hts, hK, hA⟩ := E
  have hown : s.vm.findClass RX6 = some m.cls := hown
  have hS : va_S A s.heap s.heap [] := va_S.rf
  have hl : lv_has ls 3 [(0, .ref (q 2))] := hl
  refine lv_aload_n hx hb dX6_step_0 rfl (lv_at hl 0 rfl) ?_
  refine sk_get (v := .int 0) (C := RX6) (T := TX6) (N := 8) hx hb hts inlX6 hown hK hP 0 rfl rfl 6 (by decide) w_1_66 rfl dX6_step_1 ?_
  refine lv_if_eq (tgt := 8) hx hb dX6_step_4 (by decide) (fun c_1 => ?_) (fun c => absurd c (by decide))
  refine lv_aload_n hx hb dX6_step_8 rfl (lv_at hl 0 rfl) ?_
  refine sk_get (v := .int (-1)) (C := RX6) (T := TX6) (N := 8) hx hb hts inlX6 hown hK hP 0 rfl rfl 4 (by decide) w_1_60 rfl dX6_step_9 ?_
  refine lv_bipush (v := (-3)) hx hb dX6_step_12 (by decide) ?_
  refine lv_icmp_eq (tgt := 27) hx hb dX6_step_14 (by decide) (fun c => absurd c (by decide)) (fun c_2 => ?_)
  refine lv_aload_n hx hb dX6_step_17 rfl (lv_at hl 0 rfl) ?_
  refine sk_get (v := .int (-1)) (C := RX6) (T := TX6) (N := 8) hx hb hts inlX6 hown hK hP 0 rfl rfl 4 (by decide) w_1_60 rfl dX6_step_18 ?_
  refine lv_sipush (v := 256) hx hb dX6_step_21 (by decide) ?_
  refine lv_icmp_lt (tgt := 34) hx hb dX6_step_24 (by decide) (fun c_3 => ?_) (fun c => absurd c (by decide))
  refine lv_iconst (v := (-1)) hx hb dX6_step_34 (by decide) ?_
  refine lv_istore_n (lv' := [(1, .int (-1)), (0, .ref (q 2))]) hx hb dX6_step_35 rfl hl (by decide) rfl (fun ls hl => ?_)
  refine lv_aload_n hx hb dX6_step_36 rfl (lv_at hl 1 rfl) ?_
  refine sk_get (v := .int 0) (C := RX6) (T := TX6) (N := 8) hx hb hts inlX6 hown hK hP 0 rfl rfl 1 (by decide) w_1_57 rfl dX6_step_37 ?_
  refine lv_aload_n hx hb dX6_step_40 rfl (lv_at hl 1 rfl) ?_
  refine sk_get (v := .ref (q 0)) (C := RX6) (T := TX6) (N := 8) hx hb hts inlX6 hown hK hP 0 rfl rfl 0 (by decide) w_1_56 rfl dX6_step_41 ?_
  refine sk_get (v := .int 0) (C := RX10) (T := TX10) (N := 2) hx hb hts inlX10 hown hK hP 1 rfl rfl 1 (by decide) w_1_43 rfl dX6_step_44 ?_
  refine lv_icmp_ge (tgt := 97) hx hb dX6_step_47 (by decide) (fun c_4 => ?_) (fun c => absurd c (by decide))
  refine lv_aload_n hx hb dX6_step_97 rfl (lv_at hl 1 rfl) ?_
  refine lv_aload_n hx hb dX6_step_98 rfl (lv_at hl 1 rfl) ?_
  refine sk_get (v := .int 0) (C := RX6) (T := TX6) (N := 8) hx hb hts inlX6 hown hK hP 0 rfl rfl 1 (by decide) w_1_57 rfl dX6_step_99 ?_
  refine sk_put (ws' := [(q 2, .inr (6, [.ref (q 0), .int 0, .int 0, .int 0, .int (-1), .int 0, .int 0, .int (-1)])), (q 0, .inr (10, [.ref (q 20), .int 0]))]) (C := RX6) (T := TX6) (N := 8) (v := .int 0) hx hb hts inlX6 tyX6 tyX6_ok nmX6 hown hK hP hD hS 0 rfl rfl 5 (by decide) w_1_64 rfl rfl rfl (Nat.le_of_ble_eq_true rfl) rfl dX6_step_102 (fun H locs hP hD hS => ?_)
  refine lv_aload_n hx hb dX6_step_105 rfl (lv_at hl 1 rfl) ?_
  refine sk_get (v := .int 0) (C := RX6) (T := TX6) (N := 8) hx hb hts inlX6 hown hK hP 0 rfl rfl 1 (by decide) w_1_57 rfl dX6_step_106 ?_
  refine lv_aload_n hx hb dX6_step_109 rfl (lv_at hl 1 rfl) ?_
  refine sk_get (v := .ref (q 0)) (C := RX6) (T := TX6) (N := 8) hx hb hts inlX6 hown hK hP 0 rfl rfl 0 (by decide) w_1_56 rfl dX6_step_110 ?_
  refine sk_get (v := .int 0) (C := RX10) (T := TX10) (N := 2) hx hb hts inlX10 hown hK hP 1 rfl rfl 1 (by decide) w_1_43 rfl dX6_step_113 ?_
  refine lv_icmp_lt (tgt := 125) hx hb dX6_step_116 (by decide) (fun c => absurd c (by decide)) (fun c_5 => ?_)
  refine lv_aload_n hx hb dX6_step_119 rfl (lv_at hl 1 rfl) ?_
  refine lv_iconst (v := (-1)) hx hb dX6_step_120 (by decide) ?_
  refine sk_put (ws' := [(q 2, .inr (6, [.ref (q 0), .int 0, .int 0, .int 0, .int (-1), .int 0, .int 0, .int (-1)])), (q 0, .inr (10, [.ref (q 20), .int 0]))]) (C := RX6) (T := TX6) (N := 8) (v := .int (-1)) hx hb hts inlX6 tyX6 tyX6_ok nmX6 hown hK hP hD hS 0 rfl rfl 4 (by decide) w_1_60 rfl rfl rfl (Nat.le_of_ble_eq_true rfl) rfl dX6_step_121 (fun H locs hP hD hS => ?_)
  exact sk_vret hx hb hr hlocks hK hP hD hS rfl (Nat.le_of_ble_eq_true rfl) (Nat.le_of_ble_eq_true rfl) dX6_step_124
theorem dX6_begin_0 : decode cX6_begin 0 = .ok (.aload_n 0, 1) := by decide +kernel
theorem dX6_begin_1 : decode cX6_begin 1 = .ok (.iconst 0, 1) := by decide +kernel
theorem dX6_begin_2 : decode cX6_begin 2 = .ok (.putfield 9, 3) := by decide +kernel
theorem dX6_begin_5 : decode cX6_begin 5 = .ok (.aload_n 0, 1) := by decide +kernel
theorem dX6_begin_6 : decode cX6_begin 6 = .ok (.iconst 0, 1) := by decide +kernel
theorem dX6_begin_7 : decode cX6_begin 7 = .ok (.putfield 18, 3) := by decide +kernel
theorem dX6_begin_10 : decode cX6_begin 10 = .ok (.aload_n 0, 1) := by decide +kernel
theorem dX6_begin_11 : decode cX6_begin 11 = .ok (.iconst 0, 1) := by decide +kernel
theorem dX6_begin_12 : decode cX6_begin 12 = .ok (.putfield 27, 3) := by decide +kernel
theorem dX6_begin_15 : decode cX6_begin 15 = .ok (.aload_n 0, 1) := by decide +kernel
theorem dX6_begin_16 : decode cX6_begin 16 = .ok (.iconst (-1), 1) := by decide +kernel
theorem dX6_begin_17 : decode cX6_begin 17 = .ok (.putfield 30, 3) := by decide +kernel
theorem dX6_begin_20 : decode cX6_begin 20 = .ok (.aload_n 0, 1) := by decide +kernel
theorem dX6_begin_21 : decode cX6_begin 21 = .ok (.iconst (-1), 1) := by decide +kernel
theorem dX6_begin_22 : decode cX6_begin 22 = .ok (.putfield 21, 3) := by decide +kernel
theorem dX6_begin_25 : decode cX6_begin 25 = .ok (.aload_n 0, 1) := by decide +kernel
theorem dX6_begin_26 : decode cX6_begin 26 = .ok (.invokevirtual 37, 3) := by decide +kernel
theorem dX6_begin_29 : decode cX6_begin 29 = .ok (.return_, 1) := by decide +kernel
theorem w_2_225 : (Cond.methodLink RX6 37 yX6_step) ∈ wsL_law := sk_mem (ck_2 _ (List.mem_of_getElem? (i := 225) rfl)) rfl
theorem w_2_226 : (Cond.instanceMethod yX6_step) ∈ wsL_law := sk_mem (ck_2 _ (List.mem_of_getElem? (i := 226) rfl)) rfl
theorem w_2_227 : (Cond.selects RX6 yX6_step yX6_step) ∈ wsL_law := sk_mem (ck_2 _ (List.mem_of_getElem? (i := 227) rfl)) rfl
theorem w_2_224 : (Cond.code yX6_begin cX6_begin 1 none) ∈ wsL_law := sk_mem (ck_2 _ (List.mem_of_getElem? (i := 224) rfl)) rfl
set_option maxHeartbeats 4000000 in
set_option maxRecDepth 100000 in
theorem c_rd_begin (l : Launch) (D : va_G) (cI cJ cC cZ cS : ClassId) (q : Nat → Nat)  : skM l yX6_begin cX6_begin 1 none 1 22 0 0 D (skT cI cJ cC cZ cS) [.ref (q 2)] [(q 2, .inr (6, [.ref (q 0), .int 0, .int 0, .int 0, .int (-1), .int 0, .int 0, .int (-1)])), (q 0, .inr (10, [.ref (q 20), .int 0]))] (skV D (skT cI cJ cC cZ cS) (fun (u : va_W) => u = [(q 2, .inr (6, [.ref (q 0), .int 0, .int 0, .int 0, .int (-1), .int 0, .int 0, .int (-1)])), (q 0, .inr (10, [.ref (q 20), .int 0]))])) := by
  refine skM_of (by decide) (Nat.le_of_ble_eq_true rfl) ?_
  intro p e s m below meth c A ls E hP hD hl
  obtain ⟨hx, hb, hr, hml, hlocks, hin, hown, hts, hK, hA⟩ := E
  have hown : s.vm.findClass RX6 = some m.cls := hown
  have hS : va_S A s.heap s.heap [] := va_S.rf
  have hl : lv_has ls 1 [(0, .ref (q 2))] := hl
  refine lv_aload_n hx hb dX6_begin_0 rfl (lv_at hl 0 rfl) ?_
  refine lv_iconst (v := 0) hx hb dX6_begin_1 (by decide) ?_
  refine sk_put (ws' := [(q 2, .inr (6, [.ref (q 0), .int 0, .int 0, .int 0, .int (-1), .int 0, .int 0, .int (-1)])), (q 0, .inr (10, [.ref (q 20), .int 0]))]) (C := RX6) (T := TX6) (N := 8) (v := .int 0) hx hb hts inlX6 tyX6 tyX6_ok nmX6 hown hK hP hD hS 0 rfl rfl 1 (by decide) w_1_57 rfl rfl rfl (Nat.le_of_ble_eq_true rfl) rfl dX6_begin_2 (fun H locs hP hD hS => ?_)
  refine lv_aload_n hx hb dX6_begin_5 rfl (lv_at hl 0 rfl) ?_
  refine lv_iconst (v := 0) hx hb dX6_begin_6 (by decide) ?_
  refine sk_put (ws' := [(q 2, .inr (6, [.ref (q 0), .int 0, .int 0, .int 0, .int (-1), .int 0, .int 0, .int (-1)])), (q 0, .inr (10, [.ref (q 20), .int 0]))]) (C := RX6) (T := TX6) (N := 8) (v := .int 0) hx hb hts inlX6 tyX6 tyX6_ok nmX6 hown hK hP hD hS 0 rfl rfl 3 (by decide) w_1_59 rfl rfl rfl (Nat.le_of_ble_eq_true rfl) rfl dX6_begin_7 (fun H locs hP hD hS => ?_)
  refine lv_aload_n hx hb dX6_begin_10 rfl (lv_at hl 0 rfl) ?_
  refine lv_iconst (v := 0) hx hb dX6_begin_11 (by decide) ?_
  refine sk_put (ws' := [(q 2, .inr (6, [.ref (q 0), .int 0, .int 0, .int 0, .int (-1), .int 0, .int 0, .int (-1)])), (q 0, .inr (10, [.ref (q 20), .int 0]))]) (C := RX6) (T := TX6) (N := 8) (v := .int 0) hx hb hts inlX6 tyX6 tyX6_ok nmX6 hown hK hP hD hS 0 rfl rfl 6 (by decide) w_1_66 rfl rfl rfl (Nat.le_of_ble_eq_true rfl) rfl dX6_begin_12 (fun H locs hP hD hS => ?_)
  refine lv_aload_n hx hb dX6_begin_15 rfl (lv_at hl 0 rfl) ?_
  refine lv_iconst (v := (-1)) hx hb dX6_begin_16 (by decide) ?_
  refine sk_put (ws' := [(q 2, .inr (6, [.ref (q 0), .int 0, .int 0, .int 0, .int (-1), .int 0, .int 0, .int (-1)])), (q 0, .inr (10, [.ref (q 20), .int 0]))]) (C := RX6) (T := TX6) (N := 8) (v := .int (-1)) hx hb hts inlX6 tyX6 tyX6_ok nmX6 hown hK hP hD hS 0 rfl rfl 7 (by decide) w_1_69 rfl rfl rfl (Nat.le_of_ble_eq_true rfl) rfl dX6_begin_17 (fun H locs hP hD hS => ?_)
  refine lv_aload_n hx hb dX6_begin_20 rfl (lv_at hl 0 rfl) ?_
  refine lv_iconst (v := (-1)) hx hb dX6_begin_21 (by decide) ?_
  refine sk_put (ws' := [(q 2, .inr (6, [.ref (q 0), .int 0, .int 0, .int 0, .int (-1), .int 0, .int 0, .int (-1)])), (q 0, .inr (10, [.ref (q 20), .int 0]))]) (C := RX6) (T := TX6) (N := 8) (v := .int (-1)) hx hb hts inlX6 tyX6 tyX6_ok nmX6 hown hK hP hD hS 0 rfl rfl 4 (by decide) w_1_60 rfl rfl rfl (Nat.le_of_ble_eq_true rfl) rfl dX6_begin_22 (fun H locs hP hD hS => ?_)
  refine lv_aload_n hx hb dX6_begin_25 rfl (lv_at hl 0 rfl) ?_
  refine sk_Vv (q0 := 0) (n := 0) (rest := []) (wr := []) ⟨hx, hb, hml, hown, hts⟩ hl.1 (c_rd_step l D cI cJ cC cZ cS q) w_2_225 w_2_226 w_2_227 w_1_4 w_2_228 (by decide +kernel) ⟨⟨(Nat.le_of_ble_eq_true rfl), (Nat.le_of_ble_eq_true rfl)⟩, (Nat.le_of_ble_eq_true rfl), (Nat.le_of_ble_eq_true rfl)⟩ hK hP hD hS hA [0, 1] [] rfl rfl (by decide) (by decide) (by decide) rfl rfl rfl rfl (Nat.le_of_ble_eq_true rfl) dX6_begin_26 (fun u H locs hw hP hD hS => ?_)
  obtain rfl := hw
  have hP : va_P D vwCl [(q 2, .inr (6, [.ref (q 0), .int 0, .int 0, .int 0, .int (-1), .int 0, .int 0, .int (-1)])), (q 0, .inr (10, [.ref (q 20), .int 0]))] H := hP
  have hD : va_D A [(q 2, .inr (6, [.ref (q 0), .int 0, .int 0, .int 0, .int (-1), .int 0, .int 0, .int (-1)])), (q 0, .inr (10, [.ref (q 20), .int 0]))] := hD
  refine W.widen (k := 0) (n := 0) (Nat.le_of_ble_eq_true rfl) (Nat.le_of_ble_eq_true rfl) ?_
  exact sk_vret hx hb hr hlocks hK hP hD hS rfl (Nat.le_of_ble_eq_true rfl) (Nat.le_of_ble_eq_true rfl) dX6_begin_29
theorem dX6_fail_0 : decode cX6_fail 0 = .ok (.aload_n 0, 1) := by decide +kernel
theorem dX6_fail_1 : decode cX6_fail 1 = .ok (.getfield 27, 3) := by decide +kernel
theorem dX6_fail_4 : decode cX6_fail 4 = .ok (.ifCond .ne 13, 3) := by decide +kernel
theorem dX6_fail_7 : decode cX6_fail 7 = .ok (.aload_n 0, 1) := by decide +kernel
theorem dX6_fail_8 : decode cX6_fail 8 = .ok (.iload_n 1, 1) := by decide +kernel
theorem dX6_fail_9 : decode cX6_fail 9 = .ok (.putfield 27, 3) := by decide +kernel
theorem dX6_fail_12 : decode cX6_fail 12 = .ok (.aload_n 0, 1) := by decide +kernel
theorem dX6_fail_13 : decode cX6_fail 13 = .ok (.iload_n 2, 1) := by decide +kernel
theorem dX6_fail_14 : decode cX6_fail 14 = .ok (.putfield 30, 3) := by decide +kernel
theorem dX6_fail_17 : decode cX6_fail 17 = .ok (.aload_n 0, 1) := by decide +kernel
theorem dX6_fail_18 : decode cX6_fail 18 = .ok (.bipush (-2), 2) := by decide +kernel
theorem dX6_fail_20 : decode cX6_fail 20 = .ok (.putfield 21, 3) := by decide +kernel
theorem dX6_fail_23 : decode cX6_fail 23 = .ok (.return_, 1) := by decide +kernel
theorem w_3_61 : (Cond.code yX6_fail cX6_fail 3 none) ∈ wsL_law := sk_mem (ck_3 _ (List.mem_of_getElem? (i := 61) rfl)) rfl
set_option maxHeartbeats 4000000 in
set_option maxRecDepth 100000 in
theorem c_rd_fail_a (l : Launch) (D : va_G) (cI cJ cC cZ cS : ClassId) (q : Nat → Nat)  : skM l yX6_fail cX6_fail 3 none 0 0 0 0 D (skT cI cJ cC cZ cS) [.ref (q 2), .int 1, .int 0] [(q 2, .inr (6, [.ref (q 0), .int 0, .int 0, .int 0, .int (-1), .int 0, .int 0, .int (-1)]))] (skV D (skT cI cJ cC cZ cS) (fun (u : va_W) => u = [(q 2, .inr (6, [.ref (q 0), .int 0, .int 0, .int 0, .int (-2), .int 0, .int 1, .int 0]))])) := by
  refine skM_of (by decide) (Nat.le_of_ble_eq_true rfl) ?_
  intro p e s m below meth c A ls E hP hD hl
  obtain ⟨hx, hb, hr, hml, hlocks, hin, hown, hts, hK, hA⟩ := E
  have hown : s.vm.findClass RX6 = some m.cls := hown
  have hS : va_S A s.heap s.heap [] := va_S.rf
  have hl : lv_has ls 3 [(0, .ref (q 2)), (1, .int 1), (2, .int 0)] := hl
  refine lv_aload_n hx hb dX6_fail_0 rfl (lv_at hl 0 rfl) ?_
  refine sk_get (v := .int 0) (C := RX6) (T := TX6) (N := 8) hx hb hts inlX6 hown hK hP 0 rfl rfl 6 (by decide) w_1_66 rfl dX6_fail_1 ?_
  refine lv_if_ne (tgt := 17) hx hb dX6_fail_4 (by decide) (fun c => absurd c (by decide)) (fun c_1 => ?_)
  refine lv_aload_n hx hb dX6_fail_7 rfl (lv_at hl 0 rfl) ?_
  refine lv_iload_n hx hb dX6_fail_8 rfl (lv_at hl 1 rfl) ?_
  refine sk_put (ws' := [(q 2, .inr (6, [.ref (q 0), .int 0, .int 0, .int 0, .int (-1), .int 0, .int 1, .int (-1)]))]) (C := RX6) (T := TX6) (N := 8) (v := .int 1) hx hb hts inlX6 tyX6 tyX6_ok nmX6 hown hK hP hD hS 0 rfl rfl 6 (by decide) w_1_66 rfl rfl rfl (Nat.le_of_ble_eq_true rfl) rfl dX6_fail_9 (fun H locs hP hD hS => ?_)
  refine lv_aload_n hx hb dX6_fail_12 rfl (lv_at hl 0 rfl) ?_
  refine lv_iload_n hx hb dX6_fail_13 rfl (lv_at hl 2 rfl) ?_
  refine sk_put (ws' := [(q 2, .inr (6, [.ref (q 0), .int 0, .int 0, .int 0, .int (-1), .int 0, .int 1, .int 0]))]) (C := RX6) (T := TX6) (N := 8) (v := .int 0) hx hb hts inlX6 tyX6 tyX6_ok nmX6 hown hK hP hD hS 0 rfl rfl 7 (by decide) w_1_69 rfl rfl rfl (Nat.le_of_ble_eq_true rfl) rfl dX6_fail_14 (fun H locs hP hD hS => ?_)
  refine lv_aload_n hx hb dX6_fail_17 rfl (lv_at hl 0 rfl) ?_
  refine lv_bipush (v := (-2)) hx hb dX6_fail_18 (by decide) ?_
  refine sk_put (ws' := [(q 2, .inr (6, [.ref (q 0), .int 0, .int 0, .int 0, .int (-2), .int 0, .int 1, .int 0]))]) (C := RX6) (T := TX6) (N := 8) (v := .int (-2)) hx hb hts inlX6 tyX6 tyX6_ok nmX6 hown hK hP hD hS 0 rfl rfl 4 (by decide) w_1_60 rfl rfl rfl (Nat.le_of_ble_eq_true rfl) rfl dX6_fail_20 (fun H locs hP hD hS => ?_)
  exact sk_vret hx hb hr hlocks hK hP hD hS rfl (Nat.le_of_ble_eq_true rfl) (Nat.le_of_ble_eq_true rfl) dX6_fail_23
set_option maxHeartbeats 4000000 in
set_option maxRecDepth 100000 in
theorem c_rd_fail_b (l : Launch) (D : va_G) (cI cJ cC cZ cS : ClassId) (q : Nat → Nat) (k : Int32) (wh : Int32)  : skM l yX6_fail cX6_fail 3 none 0 0 0 0 D (skT cI cJ cC cZ cS) [.ref (q 2), .int k, .int wh] [(q 2, .inr (6, [.ref (q 0), .int 0, .int 0, .int 0, .int (-2), .int 0, .int 1, .int 0]))] (skV D (skT cI cJ cC cZ cS) (fun (u : va_W) => u = [(q 2, .inr (6, [.ref (q 0), .int 0, .int 0, .int 0, .int (-2), .int 0, .int 1, .int 0]))])) := by
  refine skM_of (by decide) (Nat.le_of_ble_eq_true rfl) ?_
  intro p e s m below meth c A ls E hP hD hl
  obtain ⟨hx, hb, hr, hml, hlocks, hin, hown, hts, hK, hA⟩ := E
  have hown : s.vm.findClass RX6 = some m.cls := hown
  have hS : va_S A s.heap s.heap [] := va_S.rf
  have hl : lv_has ls 3 [(0, .ref (q 2)), (1, .int k), (2, .int wh)] := hl
  refine lv_aload_n hx hb dX6_fail_0 rfl (lv_at hl 0 rfl) ?_
  refine sk_get (v := .int 1) (C := RX6) (T := TX6) (N := 8) hx hb hts inlX6 hown hK hP 0 rfl rfl 6 (by decide) w_1_66 rfl dX6_fail_1 ?_
  refine lv_if_ne (tgt := 17) hx hb dX6_fail_4 (by decide) (fun c_1 => ?_) (fun c => absurd c (by decide))
  refine lv_aload_n hx hb dX6_fail_17 rfl (lv_at hl 0 rfl) ?_
  refine lv_bipush (v := (-2)) hx hb dX6_fail_18 (by decide) ?_
  refine sk_put (ws' := [(q 2, .inr (6, [.ref (q 0), .int 0, .int 0, .int 0, .int (-2), .int 0, .int 1, .int 0]))]) (C := RX6) (T := TX6) (N := 8) (v := .int (-2)) hx hb hts inlX6 tyX6 tyX6_ok nmX6 hown hK hP hD hS 0 rfl rfl 4 (by decide) w_1_60 rfl rfl rfl (Nat.le_of_ble_eq_true rfl) rfl dX6_fail_20 (fun H locs hP hD hS => ?_)
  exact sk_vret hx hb hr hlocks hK hP hD hS rfl (Nat.le_of_ble_eq_true rfl) (Nat.le_of_ble_eq_true rfl) dX6_fail_23
theorem dX6_failHere_0 : decode cX6_failHere 0 = .ok (.aload_n 0, 1) := by decide +kernel
theorem dX6_failHere_1 : decode cX6_failHere 1 = .ok (.iconst 1, 1) := by decide +kernel
theorem dX6_failHere_2 : decode cX6_failHere 2 = .ok (.aload_n 0, 1) := by decide +kernel
theorem dX6_failHere_3 : decode cX6_failHere 3 = .ok (.getfield 24, 3) := by decide +kernel
theorem dX6_failHere_6 : decode cX6_failHere 6 = .ok (.invokevirtual 40, 3) := by decide +kernel
theorem dX6_failHere_9 : decode cX6_failHere 9 = .ok (.return_, 1) := by decide +kernel
theorem w_3_58 : (Cond.methodLink RX6 40 yX6_fail) ∈ wsL_law := sk_mem (ck_3 _ (List.mem_of_getElem? (i := 58) rfl)) rfl
theorem w_3_59 : (Cond.instanceMethod yX6_fail) ∈ wsL_law := sk_mem (ck_3 _ (List.mem_of_getElem? (i := 59) rfl)) rfl
theorem w_3_60 : (Cond.selects RX6 yX6_fail yX6_fail) ∈ wsL_law := sk_mem (ck_3 _ (List.mem_of_getElem? (i := 60) rfl)) rfl
theorem w_3_57 : (Cond.code yX6_failHere cX6_failHere 1 none) ∈ wsL_law := sk_mem (ck_3 _ (List.mem_of_getElem? (i := 57) rfl)) rfl
set_option maxHeartbeats 4000000 in
set_option maxRecDepth 100000 in
theorem c_rd_failHere_a (l : Launch) (D : va_G) (cI cJ cC cZ cS : ClassId) (q : Nat → Nat)  : skM l yX6_failHere cX6_failHere 1 none 1 22 0 0 D (skT cI cJ cC cZ cS) [.ref (q 2)] [(q 2, .inr (6, [.ref (q 0), .int 0, .int 0, .int 0, .int (-1), .int 0, .int 0, .int (-1)]))] (skV D (skT cI cJ cC cZ cS) (fun (u : va_W) => u = [(q 2, .inr (6, [.ref (q 0), .int 0, .int 0, .int 0, .int (-2), .int 0, .int 1, .int 0]))])) := by
  refine skM_of (by decide) (Nat.le_of_ble_eq_true rfl) ?_
  intro p e s m below meth c A ls E hP hD hl
  obtain ⟨hx, hb, hr, hml, hlocks, hin, hown, hts, hK, hA⟩ := E
  have hown : s.vm.findClass RX6 = some m.cls := hown
  have hS : va_S A s.heap s.heap [] := va_S.rf
  have hl : lv_has ls 1 [(0, .ref (q 2))] := hl
  refine lv_aload_n hx hb dX6_failHere_0 rfl (lv_at hl 0 rfl) ?_
  refine lv_iconst (v := 1) hx hb dX6_failHere_1 (by decide) ?_
  refine lv_aload_n hx hb dX6_failHere_2 rfl (lv_at hl 0 rfl) ?_
  refine sk_get (v := .int 0) (C := RX6) (T := TX6) (N := 8) hx hb hts inlX6 hown hK hP 0 rfl rfl 5 (by decide) w_1_64 rfl dX6_failHere_3 ?_
  refine sk_Vv (q0 := 0) (n := 2) (rest := []) (wr := []) ⟨hx, hb, hml, hown, hts⟩ hl.1 (c_rd_fail_a l D cI cJ cC cZ cS q) w_3_58 w_3_59 w_3_60 w_1_4 w_3_61 (by decide +kernel) ⟨⟨(Nat.le_of_ble_eq_true rfl), (Nat.le_of_ble_eq_true rfl)⟩, (Nat.le_of_ble_eq_true rfl), (Nat.le_of_ble_eq_true rfl)⟩ hK hP hD hS hA [0] [] rfl rfl (by decide) (by decide) (by decide) rfl rfl rfl rfl (Nat.le_of_ble_eq_true rfl) dX6_failHere_6 (fun u H locs hw hP hD hS => ?_)
  obtain rfl := hw
  have hP : va_P D vwCl [(q 2, .inr (6, [.ref (q 0), .int 0, .int 0, .int 0, .int (-2), .int 0, .int 1, .int 0]))] H := hP
  have hD : va_D A [(q 2, .inr (6, [.ref (q 0), .int 0, .int 0, .int 0, .int (-2), .int 0, .int 1, .int 0]))] := hD
  refine W.widen (k := 0) (n := 0) (Nat.le_of_ble_eq_true rfl) (Nat.le_of_ble_eq_true rfl) ?_
  exact sk_vret hx hb hr hlocks hK hP hD hS rfl (Nat.le_of_ble_eq_true rfl) (Nat.le_of_ble_eq_true rfl) dX6_failHere_9
set_option maxHeartbeats 4000000 in
set_option maxRecDepth 100000 in
theorem c_rd_failHere_b (l : Launch) (D : va_G) (cI cJ cC cZ cS : ClassId) (q : Nat → Nat)  : skM l yX6_failHere cX6_failHere 1 none 1 22 0 0 D (skT cI cJ cC cZ cS) [.ref (q 2)] [(q 2, .inr (6, [.ref (q 0), .int 0, .int 0, .int 0, .int (-2), .int 0, .int 1, .int 0]))] (skV D (skT cI cJ cC cZ cS) (fun (u : va_W) => u = [(q 2, .inr (6, [.ref (q 0), .int 0, .int 0, .int 0, .int (-2), .int 0, .int 1, .int 0]))])) := by
  refine skM_of (by decide) (Nat.le_of_ble_eq_true rfl) ?_
  intro p e s m below meth c A ls E hP hD hl
  obtain ⟨hx, hb, hr, hml, hlocks, hin, hown, hts, hK, hA⟩ := E
  have hown : s.vm.findClass RX6 = some m.cls := hown
  have hS : va_S A s.heap s.heap [] := va_S.rf
  have hl : lv_has ls 1 [(0, .ref (q 2))] := hl
  refine lv_aload_n hx hb dX6_failHere_0 rfl (lv_at hl 0 rfl) ?_
  refine lv_iconst (v := 1) hx hb dX6_failHere_1 (by decide) ?_
  refine lv_aload_n hx hb dX6_failHere_2 rfl (lv_at hl 0 rfl) ?_
  refine sk_get (v := .int 0) (C := RX6) (T := TX6) (N := 8) hx hb hts inlX6 hown hK hP 0 rfl rfl 5 (by decide) w_1_64 rfl dX6_failHere_3 ?_
  refine sk_Vv (q0 := 0) (n := 2) (rest := []) (wr := []) ⟨hx, hb, hml, hown, hts⟩ hl.1 (c_rd_fail_b l D cI cJ cC cZ cS q 1 0) w_3_58 w_3_59 w_3_60 w_1_4 w_3_61 (by decide +kernel) ⟨⟨(Nat.le_of_ble_eq_true rfl), (Nat.le_of_ble_eq_true rfl)⟩, (Nat.le_of_ble_eq_true rfl), (Nat.le_of_ble_eq_true rfl)⟩ hK hP hD hS hA [0] [] rfl rfl (by decide) (by decide) (by decide) rfl rfl rfl rfl (Nat.le_of_ble_eq_true rfl) dX6_failHere_6 (fun u H locs hw hP hD hS => ?_)
  obtain rfl := hw
  have hP : va_P D vwCl [(q 2, .inr (6, [.ref (q 0), .int 0, .int 0, .int 0, .int (-2), .int 0, .int 1, .int 0]))] H := hP
  have hD : va_D A [(q 2, .inr (6, [.ref (q 0), .int 0, .int 0, .int 0, .int (-2), .int 0, .int 1, .int 0]))] := hD
  refine W.widen (k := 0) (n := 0) (Nat.le_of_ble_eq_true rfl) (Nat.le_of_ble_eq_true rfl) ?_
  exact sk_vret hx hb hr hlocks hK hP hD hS rfl (Nat.le_of_ble_eq_true rfl) (Nat.le_of_ble_eq_true rfl) dX6_failHere_9
theorem dX6_needs_0 : decode cX6_needs 0 = .ok (.aload_n 0, 1) := by decide +kernel
theorem dX6_needs_1 : decode cX6_needs 1 = .ok (.getfield 21, 3) := by decide +kernel
theorem dX6_needs_4 : decode cX6_needs 4 = .ok (.iload_n 1, 1) := by decide +kernel
theorem dX6_needs_5 : decode cX6_needs 5 = .ok (.if_icmp .ne 10, 3) := by decide +kernel
theorem dX6_needs_15 : decode cX6_needs 15 = .ok (.aload_n 0, 1) := by decide +kernel
theorem dX6_needs_16 : decode cX6_needs 16 = .ok (.invokevirtual 70, 3) := by decide +kernel
theorem dX6_needs_19 : decode cX6_needs 19 = .ok (.return_, 1) := by decide +kernel
theorem w_3_54 : (Cond.methodLink RX6 70 yX6_failHere) ∈ wsL_law := sk_mem (ck_3 _ (List.mem_of_getElem? (i := 54) rfl)) rfl
theorem w_3_55 : (Cond.instanceMethod yX6_failHere) ∈ wsL_law := sk_mem (ck_3 _ (List.mem_of_getElem? (i := 55) rfl)) rfl
theorem w_3_56 : (Cond.selects RX6 yX6_failHere yX6_failHere) ∈ wsL_law := sk_mem (ck_3 _ (List.mem_of_getElem? (i := 56) rfl)) rfl
theorem w_3_53 : (Cond.code yX6_needs cX6_needs 2 none) ∈ wsL_law := sk_mem (ck_3 _ (List.mem_of_getElem? (i := 53) rfl)) rfl
set_option maxHeartbeats 4000000 in
set_option maxRecDepth 100000 in
theorem c_rd_needs_a (l : Launch) (D : va_G) (cI cJ cC cZ cS : ClassId) (q : Nat → Nat)  : skM l yX6_needs cX6_needs 2 none 2 42 0 0 D (skT cI cJ cC cZ cS) [.ref (q 2), .int 256] [(q 2, .inr (6, [.ref (q 0), .int 0, .int 0, .int 0, .int (-1), .int 0, .int 0, .int (-1)]))] (skV D (skT cI cJ cC cZ cS) (fun (u : va_W) => u = [(q 2, .inr (6, [.ref (q 0), .int 0, .int 0, .int 0, .int (-2), .int 0, .int 1, .int 0]))])) := by
  refine skM_of (by decide) (Nat.le_of_ble_eq_true rfl) ?_
  intro p e s m below meth c A ls E hP hD hl
  obtain ⟨hx, hb, hr, hml, hlocks, hin, hown, hts, hK, hA⟩ := E
  have hown : s.vm.findClass RX6 = some m.cls := hown
  have hS : va_S A s.heap s.heap [] := va_S.rf
  have hl : lv_has ls 2 [(0, .ref (q 2)), (1, .int 256)] := hl
  refine lv_aload_n hx hb dX6_needs_0 rfl (lv_at hl 0 rfl) ?_
  refine sk_get (v := .int (-1)) (C := RX6) (T := TX6) (N := 8) hx hb hts inlX6 hown hK hP 0 rfl rfl 4 (by decide) w_1_60 rfl dX6_needs_1 ?_
  refine lv_iload_n hx hb dX6_needs_4 rfl (lv_at hl 1 rfl) ?_
  refine lv_icmp_ne (tgt := 15) hx hb dX6_needs_5 (by decide) (fun c_1 => ?_) (fun c => absurd c (by decide))
  refine lv_aload_n hx hb dX6_needs_15 rfl (lv_at hl 0 rfl) ?_
  refine sk_Vv (q0 := 0) (n := 0) (rest := []) (wr := []) ⟨hx, hb, hml, hown, hts⟩ hl.1 (c_rd_failHere_a l D cI cJ cC cZ cS q) w_3_54 w_3_55 w_3_56 w_1_4 w_3_57 (by decide +kernel) ⟨⟨(Nat.le_of_ble_eq_true rfl), (Nat.le_of_ble_eq_true rfl)⟩, (Nat.le_of_ble_eq_true rfl), (Nat.le_of_ble_eq_true rfl)⟩ hK hP hD hS hA [0] [] rfl rfl (by decide) (by decide) (by decide) rfl rfl rfl rfl (Nat.le_of_ble_eq_true rfl) dX6_needs_16 (fun u H locs hw hP hD hS => ?_)
  obtain rfl := hw
  have hP : va_P D vwCl [(q 2, .inr (6, [.ref (q 0), .int 0, .int 0, .int 0, .int (-2), .int 0, .int 1, .int 0]))] H := hP
  have hD : va_D A [(q 2, .inr (6, [.ref (q 0), .int 0, .int 0, .int 0, .int (-2), .int 0, .int 1, .int 0]))] := hD
  refine W.widen (k := 0) (n := 0) (Nat.le_of_ble_eq_true rfl) (Nat.le_of_ble_eq_true rfl) ?_
  exact sk_vret hx hb hr hlocks hK hP hD hS rfl (Nat.le_of_ble_eq_true rfl) (Nat.le_of_ble_eq_true rfl) dX6_needs_19
set_option maxHeartbeats 4000000 in
set_option maxRecDepth 100000 in
theorem c_rd_needs_b (l : Launch) (D : va_G) (cI cJ cC cZ cS : ClassId) (q : Nat → Nat) (w : Int32) (hne : ¬ (-2 : Int32) = w) : skM l yX6_needs cX6_needs 2 none 2 42 0 0 D (skT cI cJ cC cZ cS) [.ref (q 2), .int w] [(q 2, .inr (6, [.ref (q 0), .int 0, .int 0, .int 0, .int (-2), .int 0, .int 1, .int 0]))] (skV D (skT cI cJ cC cZ cS) (fun (u : va_W) => u = [(q 2, .inr (6, [.ref (q 0), .int 0, .int 0, .int 0, .int (-2), .int 0, .int 1, .int 0]))])) := by
  refine skM_of (by decide) (Nat.le_of_ble_eq_true rfl) ?_
  intro p e s m below meth c A ls E hP hD hl
  obtain ⟨hx, hb, hr, hml, hlocks, hin, hown, hts, hK, hA⟩ := E
  have hown : s.vm.findClass RX6 = some m.cls := hown
  have hS : va_S A s.heap s.heap [] := va_S.rf
  have hl : lv_has ls 2 [(0, .ref (q 2)), (1, .int w)] := hl
  refine lv_aload_n hx hb dX6_needs_0 rfl (lv_at hl 0 rfl) ?_
  refine sk_get (v := .int (-2)) (C := RX6) (T := TX6) (N := 8) hx hb hts inlX6 hown hK hP 0 rfl rfl 4 (by decide) w_1_60 rfl dX6_needs_1 ?_
  refine lv_iload_n hx hb dX6_needs_4 rfl (lv_at hl 1 rfl) ?_
  refine lv_icmp_ne (tgt := 15) hx hb dX6_needs_5 (by decide) (fun c_1 => ?_) (fun c => absurd c (hne))
  refine lv_aload_n hx hb dX6_needs_15 rfl (lv_at hl 0 rfl) ?_
  refine sk_Vv (q0 := 0) (n := 0) (rest := []) (wr := []) ⟨hx, hb, hml, hown, hts⟩ hl.1 (c_rd_failHere_b l D cI cJ cC cZ cS q) w_3_54 w_3_55 w_3_56 w_1_4 w_3_57 (by decide +kernel) ⟨⟨(Nat.le_of_ble_eq_true rfl), (Nat.le_of_ble_eq_true rfl)⟩, (Nat.le_of_ble_eq_true rfl), (Nat.le_of_ble_eq_true rfl)⟩ hK hP hD hS hA [0] [] rfl rfl (by decide) (by decide) (by decide) rfl rfl rfl rfl (Nat.le_of_ble_eq_true rfl) dX6_needs_16 (fun u H locs hw hP hD hS => ?_)
  obtain rfl := hw
  have hP : va_P D vwCl [(q 2, .inr (6, [.ref (q 0), .int 0, .int 0, .int 0, .int (-2), .int 0, .int 1, .int 0]))] H := hP
  have hD : va_D A [(q 2, .inr (6, [.ref (q 0), .int 0, .int 0, .int 0, .int (-2), .int 0, .int 1, .int 0]))] := hD
  refine W.widen (k := 0) (n := 0) (Nat.le_of_ble_eq_true rfl) (Nat.le_of_ble_eq_true rfl) ?_
  exact sk_vret hx hb hr hlocks hK hP hD hS rfl (Nat.le_of_ble_eq_true rfl) (Nat.le_of_ble_eq_true rfl) dX6_needs_19
theorem dX6_takeNumber_0 : decode cX6_takeNumber 0 = .ok (.aload_n 0, 1) := by decide +kernel
theorem dX6_takeNumber_1 : decode cX6_takeNumber 1 = .ok (.getfield 15, 3) := by decide +kernel
theorem dX6_takeNumber_4 : decode cX6_takeNumber 4 = .ok (.istore_n 3, 1) := by decide +kernel
theorem dX6_takeNumber_5 : decode cX6_takeNumber 5 = .ok (.aload_n 0, 1) := by decide +kernel
theorem dX6_takeNumber_6 : decode cX6_takeNumber 6 = .ok (.getfield 21, 3) := by decide +kernel
theorem dX6_takeNumber_9 : decode cX6_takeNumber 9 = .ok (.bipush (-3), 2) := by decide +kernel
theorem dX6_takeNumber_11 : decode cX6_takeNumber 11 = .ok (.if_icmp .eq 9, 3) := by decide +kernel
theorem dX6_takeNumber_14 : decode cX6_takeNumber 14 = .ok (.aload_n 0, 1) := by decide +kernel
theorem dX6_takeNumber_15 : decode cX6_takeNumber 15 = .ok (.invokevirtual 70, 3) := by decide +kernel
theorem dX6_takeNumber_18 : decode cX6_takeNumber 18 = .ok (.iload_n 1, 1) := by decide +kernel
theorem dX6_takeNumber_19 : decode cX6_takeNumber 19 = .ok (.ireturn, 1) := by decide +kernel
theorem w_3_65 : (Cond.code yX6_takeNumber cX6_takeNumber 4 (some .int)) ∈ wsL_law := sk_mem (ck_3 _ (List.mem_of_getElem? (i := 65) rfl)) rfl
set_option maxHeartbeats 4000000 in
set_option maxRecDepth 100000 in
theorem c_rd_takeNumber_b (l : Launch) (D : va_G) (cI cJ cC cZ cS : ClassId) (q : Nat → Nat) (lo : Int32) (hi : Int32)  : skM l yX6_takeNumber cX6_takeNumber 4 (some .int) 2 42 0 0 D (skT cI cJ cC cZ cS) [.ref (q 2), .int lo, .int hi] [(q 2, .inr (6, [.ref (q 0), .int 0, .int 0, .int 0, .int (-2), .int 0, .int 1, .int 0]))] (skI D (skT cI cJ cC cZ cS) (fun (r : Int32) (u : va_W) => r = lo ∧ u = [(q 2, .inr (6, [.ref (q 0), .int 0, .int 0, .int 0, .int (-2), .int 0, .int 1, .int 0]))])) := by
  refine skM_of (by decide) (Nat.le_of_ble_eq_true rfl) ?_
  intro p e s m below meth c A ls E hP hD hl
  obtain ⟨hx, hb, hr, hml, hlocks, hin, hown, hts, hK, hA⟩ := E
  have hown : s.vm.findClass RX6 = some m.cls := hown
  have hS : va_S A s.heap s.heap [] := va_S.rf
  have hl : lv_has ls 4 [(0, .ref (q 2)), (1, .int lo), (2, .int hi)] := hl
  refine lv_aload_n hx hb dX6_takeNumber_0 rfl (lv_at hl 0 rfl) ?_
  refine sk_get (v := .int 0) (C := RX6) (T := TX6) (N := 8) hx hb hts inlX6 hown hK hP 0 rfl rfl 2 (by decide) w_1_58 rfl dX6_takeNumber_1 ?_
  refine lv_istore_n (lv' := [(3, .int 0), (0, .ref (q 2)), (1, .int lo), (2, .int hi)]) hx hb dX6_takeNumber_4 rfl hl (by decide) rfl (fun ls hl => ?_)
  refine lv_aload_n hx hb dX6_takeNumber_5 rfl (lv_at hl 1 rfl) ?_
  refine sk_get (v := .int (-2)) (C := RX6) (T := TX6) (N := 8) hx hb hts inlX6 hown hK hP 0 rfl rfl 4 (by decide) w_1_60 rfl dX6_takeNumber_6 ?_
  refine lv_bipush (v := (-3)) hx hb dX6_takeNumber_9 (by decide) ?_
  refine lv_icmp_eq (tgt := 20) hx hb dX6_takeNumber_11 (by decide) (fun c => absurd c (by decide)) (fun c_1 => ?_)
  refine lv_aload_n hx hb dX6_takeNumber_14 rfl (lv_at hl 1 rfl) ?_
  refine sk_Vv (q0 := 0) (n := 0) (rest := []) (wr := []) ⟨hx, hb, hml, hown, hts⟩ hl.1 (c_rd_failHere_b l D cI cJ cC cZ cS q) w_3_54 w_3_55 w_3_56 w_1_4 w_3_57 (by decide +kernel) ⟨⟨(Nat.le_of_ble_eq_true rfl), (Nat.le_of_ble_eq_true rfl)⟩, (Nat.le_of_ble_eq_true rfl), (Nat.le_of_ble_eq_true rfl)⟩ hK hP hD hS hA [0] [] rfl rfl (by decide) (by decide) (by decide) rfl rfl rfl rfl (Nat.le_of_ble_eq_true rfl) dX6_takeNumber_15 (fun u H locs hw hP hD hS => ?_)
  obtain rfl := hw
  have hP : va_P D vwCl [(q 2, .inr (6, [.ref (q 0), .int 0, .int 0, .int 0, .int (-2), .int 0, .int 1, .int 0]))] H := hP
  have hD : va_D A [(q 2, .inr (6, [.ref (q 0), .int 0, .int 0, .int 0, .int (-2), .int 0, .int 1, .int 0]))] := hD
  refine W.widen (k := 0) (n := 0) (Nat.le_of_ble_eq_true rfl) (Nat.le_of_ble_eq_true rfl) ?_
  refine lv_iload_n hx hb dX6_takeNumber_18 rfl (lv_at hl 2 rfl) ?_
  exact sk_iret hx hb hr rfl hlocks hK hP hD hS (⟨rfl, rfl⟩) (Nat.le_of_ble_eq_true rfl) (Nat.le_of_ble_eq_true rfl) dX6_takeNumber_19
theorem dX3_readOpening_0 : decode cX3_readOpening 0 = .ok (.aload_n 0, 1) := by decide +kernel
theorem dX3_readOpening_1 : decode cX3_readOpening 1 = .ok (.getfield 9, 3) := by decide +kernel
theorem dX3_readOpening_4 : decode cX3_readOpening 4 = .ok (.sipush 256, 3) := by decide +kernel
theorem dX3_readOpening_7 : decode cX3_readOpening 7 = .ok (.invokevirtual 58, 3) := by decide +kernel
theorem dX3_readOpening_10 : decode cX3_readOpening 10 = .ok (.aload_n 1, 1) := by decide +kernel
theorem dX3_readOpening_11 : decode cX3_readOpening 11 = .ok (.aload_n 0, 1) := by decide +kernel
theorem dX3_readOpening_12 : decode cX3_readOpening 12 = .ok (.getfield 9, 3) := by decide +kernel
theorem dX3_readOpening_15 : decode cX3_readOpening 15 = .ok (.iconst 2, 1) := by decide +kernel
theorem dX3_readOpening_16 : decode cX3_readOpening 16 = .ok (.bipush 9, 2) := by decide +kernel
theorem dX3_readOpening_18 : decode cX3_readOpening 18 = .ok (.invokevirtual 72, 3) := by decide +kernel
theorem dX3_readOpening_21 : decode cX3_readOpening 21 = .ok (.putfield 76, 3) := by decide +kernel
theorem dX3_readOpening_24 : decode cX3_readOpening 24 = .ok (.aload_n 0, 1) := by decide +kernel
theorem dX3_readOpening_25 : decode cX3_readOpening 25 = .ok (.getfield 9, 3) := by decide +kernel
theorem dX3_readOpening_28 : decode cX3_readOpening 28 = .ok (.sipush 257, 3) := by decide +kernel
theorem dX3_readOpening_31 : decode cX3_readOpening 31 = .ok (.invokevirtual 58, 3) := by decide +kernel
theorem dX3_readOpening_34 : decode cX3_readOpening 34 = .ok (.aload_n 1, 1) := by decide +kernel
theorem dX3_readOpening_35 : decode cX3_readOpening 35 = .ok (.aload_n 0, 1) := by decide +kernel
theorem dX3_readOpening_36 : decode cX3_readOpening 36 = .ok (.getfield 9, 3) := by decide +kernel
theorem dX3_readOpening_39 : decode cX3_readOpening 39 = .ok (.iconst 0, 1) := by decide +kernel
theorem dX3_readOpening_40 : decode cX3_readOpening 40 = .ok (.bipush 9, 2) := by decide +kernel
theorem dX3_readOpening_42 : decode cX3_readOpening 42 = .ok (.invokevirtual 72, 3) := by decide +kernel
theorem dX3_readOpening_45 : decode cX3_readOpening 45 = .ok (.putfield 79, 3) := by decide +kernel
theorem dX3_readOpening_48 : decode cX3_readOpening 48 = .ok (.aload_n 0, 1) := by decide +kernel
theorem dX3_readOpening_49 : decode cX3_readOpening 49 = .ok (.getfield 9, 3) := by decide +kernel
theorem dX3_readOpening_52 : decode cX3_readOpening 52 = .ok (.bipush 59, 2) := by decide +kernel
theorem dX3_readOpening_54 : decode cX3_readOpening 54 = .ok (.invokevirtual 58, 3) := by decide +kernel
theorem dX3_readOpening_57 : decode cX3_readOpening 57 = .ok (.aload_n 1, 1) := by decide +kernel
theorem dX3_readOpening_58 : decode cX3_readOpening 58 = .ok (.iconst 1, 1) := by decide +kernel
theorem dX3_readOpening_59 : decode cX3_readOpening 59 = .ok (.putfield 41, 3) := by decide +kernel
theorem dX3_readOpening_62 : decode cX3_readOpening 62 = .ok (.return_, 1) := by decide +kernel
theorem w_3_50 : (Cond.methodLink RX3 58 yX6_needs) ∈ wsL_law := sk_mem (ck_3 _ (List.mem_of_getElem? (i := 50) rfl)) rfl
theorem w_3_51 : (Cond.instanceMethod yX6_needs) ∈ wsL_law := sk_mem (ck_3 _ (List.mem_of_getElem? (i := 51) rfl)) rfl
theorem w_3_52 : (Cond.selects RX6 yX6_needs yX6_needs) ∈ wsL_law := sk_mem (ck_3 _ (List.mem_of_getElem? (i := 52) rfl)) rfl
theorem w_3_62 : (Cond.methodLink RX3 72 yX6_takeNumber) ∈ wsL_law := sk_mem (ck_3 _ (List.mem_of_getElem? (i := 62) rfl)) rfl
theorem w_3_63 : (Cond.instanceMethod yX6_takeNumber) ∈ wsL_law := sk_mem (ck_3 _ (List.mem_of_getElem? (i := 63) rfl)) rfl
theorem w_3_64 : (Cond.selects RX6 yX6_takeNumber yX6_takeNumber) ∈ wsL_law := sk_mem (ck_3 _ (List.mem_of_getElem? (i := 64) rfl)) rfl
theorem w_1_190 : (Cond.fieldLink RX3 76 "SameKeeper$Lock" "days" "I") ∈ wsL_law := sk_mem (ck_1 _ (List.mem_of_getElem? (i := 190) rfl)) rfl
theorem w_1_193 : (Cond.fieldLink RX3 79 "SameKeeper$Lock" "mood" "I") ∈ wsL_law := sk_mem (ck_1 _ (List.mem_of_getElem? (i := 193) rfl)) rfl
theorem w_1_201 : (Cond.fieldLink RX3 41 "SameKeeper$Lock" "statements" "I") ∈ wsL_law := sk_mem (ck_1 _ (List.mem_of_getElem? (i := 201) rfl)) rfl
theorem w_3_49 : (Cond.code yX3_readOpening cX3_readOpening 2 none) ∈ wsL_law := sk_mem (ck_3 _ (List.mem_of_getElem? (i := 49) rfl)) rfl
set_option maxHeartbeats 4000000 in
set_option maxRecDepth 100000 in
theorem c_lt_opening (l : Launch) (D : va_G) (cI cJ cC cZ cS : ClassId) (q : Nat → Nat)  : skM l yX3_readOpening cX3_readOpening 2 none 3 65 0 0 D (skT cI cJ cC cZ cS) [.ref (q 3), .ref (q 6)] [(q 3, .inr (3, [.ref (q 2), .ref (q 22), .ref (q 23)])), (q 2, .inr (6, [.ref (q 0), .int 0, .int 0, .int 0, .int (-1), .int 0, .int 0, .int (-1)])), (q 6, .inr (2, [.ref (q 24), .ref (q 25), .ref (q 26), .ref (q 27), .ref (q 28), .int 0, .int 0, .int 0, .int 0, .int 0]))] (skV D (skT cI cJ cC cZ cS) (fun (u : va_W) => u = [(q 3, .inr (3, [.ref (q 2), .ref (q 22), .ref (q 23)])), (q 2, .inr (6, [.ref (q 0), .int 0, .int 0, .int 0, .int (-2), .int 0, .int 1, .int 0])), (q 6, .inr (2, [.ref (q 24), .ref (q 25), .ref (q 26), .ref (q 27), .ref (q 28), .int 2, .int 0, .int 0, .int 0, .int 1]))])) := by
  refine skM_of (by decide) (Nat.le_of_ble_eq_true rfl) ?_
  intro p e s m below meth c A ls E hP hD hl
  obtain ⟨hx, hb, hr, hml, hlocks, hin, hown, hts, hK, hA⟩ := E
  have hown : s.vm.findClass RX3 = some m.cls := hown
  have hS : va_S A s.heap s.heap [] := va_S.rf
  have hl : lv_has ls 2 [(0, .ref (q 3)), (1, .ref (q 6))] := hl
  refine lv_aload_n hx hb dX3_readOpening_0 rfl (lv_at hl 0 rfl) ?_
  refine sk_get (v := .ref (q 2)) (C := RX3) (T := TX3) (N := 3) hx hb hts inlX3 hown hK hP 0 rfl rfl 0 (by decide) w_1_107 rfl dX3_readOpening_1 ?_
  refine lv_sipush (v := 256) hx hb dX3_readOpening_4 (by decide) ?_
  refine sk_Vv (q0 := 0) (n := 1) (rest := []) (wr := [(q 3, .inr (3, [.ref (q 2), .ref (q 22), .ref (q 23)])), (q 6, .inr (2, [.ref (q 24), .ref (q 25), .ref (q 26), .ref (q 27), .ref (q 28), .int 0, .int 0, .int 0, .int 0, .int 0]))]) ⟨hx, hb, hml, hown, hts⟩ hl.1 (c_rd_needs_a l D cI cJ cC cZ cS q) w_3_50 w_3_51 w_3_52 w_1_4 w_3_53 (by decide +kernel) ⟨⟨(Nat.le_of_ble_eq_true rfl), (Nat.le_of_ble_eq_true rfl)⟩, (Nat.le_of_ble_eq_true rfl), (Nat.le_of_ble_eq_true rfl)⟩ hK hP hD hS hA [1] [0, 2] rfl rfl (by decide) (by decide) (by decide) rfl rfl rfl rfl (Nat.le_of_ble_eq_true rfl) dX3_readOpening_7 (fun u H locs hw hP hD hS => ?_)
  obtain rfl := hw
  have hP : va_P D vwCl [(q 3, .inr (3, [.ref (q 2), .ref (q 22), .ref (q 23)])), (q 6, .inr (2, [.ref (q 24), .ref (q 25), .ref (q 26), .ref (q 27), .ref (q 28), .int 0, .int 0, .int 0, .int 0, .int 0])), (q 2, .inr (6, [.ref (q 0), .int 0, .int 0, .int 0, .int (-2), .int 0, .int 1, .int 0]))] H := hP
  have hD : va_D A [(q 3, .inr (3, [.ref (q 2), .ref (q 22), .ref (q 23)])), (q 6, .inr (2, [.ref (q 24), .ref (q 25), .ref (q 26), .ref (q 27), .ref (q 28), .int 0, .int 0, .int 0, .int 0, .int 0])), (q 2, .inr (6, [.ref (q 0), .int 0, .int 0, .int 0, .int (-2), .int 0, .int 1, .int 0]))] := hD
  refine W.widen (k := 0) (n := 0) (Nat.le_of_ble_eq_true rfl) (Nat.le_of_ble_eq_true rfl) ?_
  refine lv_aload_n hx hb dX3_readOpening_10 rfl (lv_at hl 1 rfl) ?_
  refine lv_aload_n hx hb dX3_readOpening_11 rfl (lv_at hl 0 rfl) ?_
  refine sk_get (v := .ref (q 2)) (C := RX3) (T := TX3) (N := 3) hx hb hts inlX3 hown hK hP 0 rfl rfl 0 (by decide) w_1_107 rfl dX3_readOpening_12 ?_
  refine lv_iconst (v := 2) hx hb dX3_readOpening_15 (by decide) ?_
  refine lv_bipush (v := 9) hx hb dX3_readOpening_16 (by decide) ?_
  refine sk_Vi (q0 := 0) (n := 2) (rest := [.ref (q 6)]) (wr := [(q 3, .inr (3, [.ref (q 2), .ref (q 22), .ref (q 23)])), (q 6, .inr (2, [.ref (q 24), .ref (q 25), .ref (q 26), .ref (q 27), .ref (q 28), .int 0, .int 0, .int 0, .int 0, .int 0]))]) ⟨hx, hb, hml, hown, hts⟩ hl.1 (c_rd_takeNumber_b l D cI cJ cC cZ cS q 2 9) w_3_62 w_3_63 w_3_64 w_1_4 w_3_65 (by decide +kernel) ⟨⟨(Nat.le_of_ble_eq_true rfl), (Nat.le_of_ble_eq_true rfl)⟩, (Nat.le_of_ble_eq_true rfl), (Nat.le_of_ble_eq_true rfl)⟩ hK hP hD hS hA [2] [0, 1] rfl rfl (by decide) (by decide) (by decide) rfl rfl rfl rfl (Nat.le_of_ble_eq_true rfl) dX3_readOpening_18 (fun r_1 u H locs hw hP hD hS => ?_)
  obtain ⟨rfl, rfl⟩ := hw
  have hP : va_P D vwCl [(q 3, .inr (3, [.ref (q 2), .ref (q 22), .ref (q 23)])), (q 6, .inr (2, [.ref (q 24), .ref (q 25), .ref (q 26), .ref (q 27), .ref (q 28), .int 0, .int 0, .int 0, .int 0, .int 0])), (q 2, .inr (6, [.ref (q 0), .int 0, .int 0, .int 0, .int (-2), .int 0, .int 1, .int 0]))] H := hP
  have hD : va_D A [(q 3, .inr (3, [.ref (q 2), .ref (q 22), .ref (q 23)])), (q 6, .inr (2, [.ref (q 24), .ref (q 25), .ref (q 26), .ref (q 27), .ref (q 28), .int 0, .int 0, .int 0, .int 0, .int 0])), (q 2, .inr (6, [.ref (q 0), .int 0, .int 0, .int 0, .int (-2), .int 0, .int 1, .int 0]))] := hD
  refine W.widen (k := 0) (n := 0) (Nat.le_of_ble_eq_true rfl) (Nat.le_of_ble_eq_true rfl) ?_
  refine sk_top 2 rfl ?_
  refine sk_put (ws' := [(q 3, .inr (3, [.ref (q 2), .ref (q 22), .ref (q 23)])), (q 6, .inr (2, [.ref (q 24), .ref (q 25), .ref (q 26), .ref (q 27), .ref (q 28), .int 2, .int 0, .int 0, .int 0, .int 0])), (q 2, .inr (6, [.ref (q 0), .int 0, .int 0, .int 0, .int (-2), .int 0, .int 1, .int 0]))]) (C := RX2) (T := TX2) (N := 10) (v := .int 2) hx hb hts inlX2 tyX2 tyX2_ok nmX2 hown hK hP hD hS 1 rfl rfl 5 (by decide) w_1_190 rfl rfl rfl (Nat.le_of_ble_eq_true rfl) rfl dX3_readOpening_21 (fun H locs hP hD hS => ?_)
  refine lv_aload_n hx hb dX3_readOpening_24 rfl (lv_at hl 0 rfl) ?_
  refine sk_get (v := .ref (q 2)) (C := RX3) (T := TX3) (N := 3) hx hb hts inlX3 hown hK hP 0 rfl rfl 0 (by decide) w_1_107 rfl dX3_readOpening_25 ?_
  refine lv_sipush (v := 257) hx hb dX3_readOpening_28 (by decide) ?_
  refine sk_Vv (q0 := 0) (n := 1) (rest := []) (wr := [(q 3, .inr (3, [.ref (q 2), .ref (q 22), .ref (q 23)])), (q 6, .inr (2, [.ref (q 24), .ref (q 25), .ref (q 26), .ref (q 27), .ref (q 28), .int 2, .int 0, .int 0, .int 0, .int 0]))]) ⟨hx, hb, hml, hown, hts⟩ hl.1 (c_rd_needs_b l D cI cJ cC cZ cS q 257 (by decide)) w_3_50 w_3_51 w_3_52 w_1_4 w_3_53 (by decide +kernel) ⟨⟨(Nat.le_of_ble_eq_true rfl), (Nat.le_of_ble_eq_true rfl)⟩, (Nat.le_of_ble_eq_true rfl), (Nat.le_of_ble_eq_true rfl)⟩ hK hP hD hS hA [2] [0, 1] rfl rfl (by decide) (by decide) (by decide) rfl rfl rfl rfl (Nat.le_of_ble_eq_true rfl) dX3_readOpening_31 (fun u H locs hw hP hD hS => ?_)
  obtain rfl := hw
  have hP : va_P D vwCl [(q 3, .inr (3, [.ref (q 2), .ref (q 22), .ref (q 23)])), (q 6, .inr (2, [.ref (q 24), .ref (q 25), .ref (q 26), .ref (q 27), .ref (q 28), .int 2, .int 0, .int 0, .int 0, .int 0])), (q 2, .inr (6, [.ref (q 0), .int 0, .int 0, .int 0, .int (-2), .int 0, .int 1, .int 0]))] H := hP
  have hD : va_D A [(q 3, .inr (3, [.ref (q 2), .ref (q 22), .ref (q 23)])), (q 6, .inr (2, [.ref (q 24), .ref (q 25), .ref (q 26), .ref (q 27), .ref (q 28), .int 2, .int 0, .int 0, .int 0, .int 0])), (q 2, .inr (6, [.ref (q 0), .int 0, .int 0, .int 0, .int (-2), .int 0, .int 1, .int 0]))] := hD
  refine W.widen (k := 0) (n := 0) (Nat.le_of_ble_eq_true rfl) (Nat.le_of_ble_eq_true rfl) ?_
  refine lv_aload_n hx hb dX3_readOpening_34 rfl (lv_at hl 1 rfl) ?_
  refine lv_aload_n hx hb dX3_readOpening_35 rfl (lv_at hl 0 rfl) ?_
  refine sk_get (v := .ref (q 2)) (C := RX3) (T := TX3) (N := 3) hx hb hts inlX3 hown hK hP 0 rfl rfl 0 (by decide) w_1_107 rfl dX3_readOpening_36 ?_
  refine lv_iconst (v := 0) hx hb dX3_readOpening_39 (by decide) ?_
  refine lv_bipush (v := 9) hx hb dX3_readOpening_40 (by decide) ?_
  refine sk_Vi (q0 := 0) (n := 2) (rest := [.ref (q 6)]) (wr := [(q 3, .inr (3, [.ref (q 2), .ref (q 22), .ref (q 23)])), (q 6, .inr (2, [.ref (q 24), .ref (q 25), .ref (q 26), .ref (q 27), .ref (q 28), .int 2, .int 0, .int 0, .int 0, .int 0]))]) ⟨hx, hb, hml, hown, hts⟩ hl.1 (c_rd_takeNumber_b l D cI cJ cC cZ cS q 0 9) w_3_62 w_3_63 w_3_64 w_1_4 w_3_65 (by decide +kernel) ⟨⟨(Nat.le_of_ble_eq_true rfl), (Nat.le_of_ble_eq_true rfl)⟩, (Nat.le_of_ble_eq_true rfl), (Nat.le_of_ble_eq_true rfl)⟩ hK hP hD hS hA [2] [0, 1] rfl rfl (by decide) (by decide) (by decide) rfl rfl rfl rfl (Nat.le_of_ble_eq_true rfl) dX3_readOpening_42 (fun r_2 u H locs hw hP hD hS => ?_)
  obtain ⟨rfl, rfl⟩ := hw
  have hP : va_P D vwCl [(q 3, .inr (3, [.ref (q 2), .ref (q 22), .ref (q 23)])), (q 6, .inr (2, [.ref (q 24), .ref (q 25), .ref (q 26), .ref (q 27), .ref (q 28), .int 2, .int 0, .int 0, .int 0, .int 0])), (q 2, .inr (6, [.ref (q 0), .int 0, .int 0, .int 0, .int (-2), .int 0, .int 1, .int 0]))] H := hP
  have hD : va_D A [(q 3, .inr (3, [.ref (q 2), .ref (q 22), .ref (q 23)])), (q 6, .inr (2, [.ref (q 24), .ref (q 25), .ref (q 26), .ref (q 27), .ref (q 28), .int 2, .int 0, .int 0, .int 0, .int 0])), (q 2, .inr (6, [.ref (q 0), .int 0, .int 0, .int 0, .int (-2), .int 0, .int 1, .int 0]))] := hD
  refine W.widen (k := 0) (n := 0) (Nat.le_of_ble_eq_true rfl) (Nat.le_of_ble_eq_true rfl) ?_
  refine sk_top 0 rfl ?_
  refine sk_put (ws' := [(q 3, .inr (3, [.ref (q 2), .ref (q 22), .ref (q 23)])), (q 6, .inr (2, [.ref (q 24), .ref (q 25), .ref (q 26), .ref (q 27), .ref (q 28), .int 2, .int 0, .int 0, .int 0, .int 0])), (q 2, .inr (6, [.ref (q 0), .int 0, .int 0, .int 0, .int (-2), .int 0, .int 1, .int 0]))]) (C := RX2) (T := TX2) (N := 10) (v := .int 0) hx hb hts inlX2 tyX2 tyX2_ok nmX2 hown hK hP hD hS 1 rfl rfl 6 (by decide) w_1_193 rfl rfl rfl (Nat.le_of_ble_eq_true rfl) rfl dX3_readOpening_45 (fun H locs hP hD hS => ?_)
  refine lv_aload_n hx hb dX3_readOpening_48 rfl (lv_at hl 0 rfl) ?_
  refine sk_get (v := .ref (q 2)) (C := RX3) (T := TX3) (N := 3) hx hb hts inlX3 hown hK hP 0 rfl rfl 0 (by decide) w_1_107 rfl dX3_readOpening_49 ?_
  refine lv_bipush (v := 59) hx hb dX3_readOpening_52 (by decide) ?_
  refine sk_Vv (q0 := 0) (n := 1) (rest := []) (wr := [(q 3, .inr (3, [.ref (q 2), .ref (q 22), .ref (q 23)])), (q 6, .inr (2, [.ref (q 24), .ref (q 25), .ref (q 26), .ref (q 27), .ref (q 28), .int 2, .int 0, .int 0, .int 0, .int 0]))]) ⟨hx, hb, hml, hown, hts⟩ hl.1 (c_rd_needs_b l D cI cJ cC cZ cS q 59 (by decide)) w_3_50 w_3_51 w_3_52 w_1_4 w_3_53 (by decide +kernel) ⟨⟨(Nat.le_of_ble_eq_true rfl), (Nat.le_of_ble_eq_true rfl)⟩, (Nat.le_of_ble_eq_true rfl), (Nat.le_of_ble_eq_true rfl)⟩ hK hP hD hS hA [2] [0, 1] rfl rfl (by decide) (by decide) (by decide) rfl rfl rfl rfl (Nat.le_of_ble_eq_true rfl) dX3_readOpening_54 (fun u H locs hw hP hD hS => ?_)
  obtain rfl := hw
  have hP : va_P D vwCl [(q 3, .inr (3, [.ref (q 2), .ref (q 22), .ref (q 23)])), (q 6, .inr (2, [.ref (q 24), .ref (q 25), .ref (q 26), .ref (q 27), .ref (q 28), .int 2, .int 0, .int 0, .int 0, .int 0])), (q 2, .inr (6, [.ref (q 0), .int 0, .int 0, .int 0, .int (-2), .int 0, .int 1, .int 0]))] H := hP
  have hD : va_D A [(q 3, .inr (3, [.ref (q 2), .ref (q 22), .ref (q 23)])), (q 6, .inr (2, [.ref (q 24), .ref (q 25), .ref (q 26), .ref (q 27), .ref (q 28), .int 2, .int 0, .int 0, .int 0, .int 0])), (q 2, .inr (6, [.ref (q 0), .int 0, .int 0, .int 0, .int (-2), .int 0, .int 1, .int 0]))] := hD
  refine W.widen (k := 0) (n := 0) (Nat.le_of_ble_eq_true rfl) (Nat.le_of_ble_eq_true rfl) ?_
  refine lv_aload_n hx hb dX3_readOpening_57 rfl (lv_at hl 1 rfl) ?_
  refine lv_iconst (v := 1) hx hb dX3_readOpening_58 (by decide) ?_
  refine sk_put (ws' := [(q 3, .inr (3, [.ref (q 2), .ref (q 22), .ref (q 23)])), (q 6, .inr (2, [.ref (q 24), .ref (q 25), .ref (q 26), .ref (q 27), .ref (q 28), .int 2, .int 0, .int 0, .int 0, .int 1])), (q 2, .inr (6, [.ref (q 0), .int 0, .int 0, .int 0, .int (-2), .int 0, .int 1, .int 0]))]) (C := RX2) (T := TX2) (N := 10) (v := .int 1) hx hb hts inlX2 tyX2 tyX2_ok nmX2 hown hK hP hD hS 1 rfl rfl 9 (by decide) w_1_201 rfl rfl rfl (Nat.le_of_ble_eq_true rfl) rfl dX3_readOpening_59 (fun H locs hP hD hS => ?_)
  have hP := hP.sub (ws' := [(q 3, .inr (3, [.ref (q 2), .ref (q 22), .ref (q 23)])), (q 2, .inr (6, [.ref (q 0), .int 0, .int 0, .int 0, .int (-2), .int 0, .int 1, .int 0])), (q 6, .inr (2, [.ref (q 24), .ref (q 25), .ref (q 26), .ref (q 27), .ref (q 28), .int 2, .int 0, .int 0, .int 0, .int 1]))]) [0, 2, 1] rfl
  have hD := hD.sub (ws' := [(q 3, .inr (3, [.ref (q 2), .ref (q 22), .ref (q 23)])), (q 2, .inr (6, [.ref (q 0), .int 0, .int 0, .int 0, .int (-2), .int 0, .int 1, .int 0])), (q 6, .inr (2, [.ref (q 24), .ref (q 25), .ref (q 26), .ref (q 27), .ref (q 28), .int 2, .int 0, .int 0, .int 0, .int 1]))]) [0, 2, 1] (by decide) rfl
  exact sk_vret hx hb hr hlocks hK hP hD hS rfl (Nat.le_of_ble_eq_true rfl) (Nat.le_of_ble_eq_true rfl) dX3_readOpening_62
theorem dX2_hasSum_0 : decode cX2_hasSum 0 = .ok (.aload_n 0, 1) := by decide +kernel
theorem dX2_hasSum_1 : decode cX2_hasSum 1 = .ok (.getfield 28, 3) := by decide +kernel
theorem dX2_hasSum_4 : decode cX2_hasSum 4 = .ok (.iload_n 1, 1) := by decide +kernel
theorem dX2_hasSum_5 : decode cX2_hasSum 5 = .ok (.iaload, 1) := by decide +kernel
theorem dX2_hasSum_6 : decode cX2_hasSum 6 = .ok (.aload_n 0, 1) := by decide +kernel
theorem dX2_hasSum_7 : decode cX2_hasSum 7 = .ok (.getfield 25, 3) := by decide +kernel
theorem dX2_hasSum_10 : decode cX2_hasSum 10 = .ok (.iload_n 1, 1) := by decide +kernel
theorem dX2_hasSum_11 : decode cX2_hasSum 11 = .ok (.iaload, 1) := by decide +kernel
theorem dX2_hasSum_12 : decode cX2_hasSum 12 = .ok (.if_icmp .le 7, 3) := by decide +kernel
theorem dX2_hasSum_19 : decode cX2_hasSum 19 = .ok (.iconst 0, 1) := by decide +kernel
theorem dX2_hasSum_20 : decode cX2_hasSum 20 = .ok (.ireturn, 1) := by decide +kernel
theorem w_3_73 : (Cond.code yX2_hasSum cX2_hasSum 2 (some .boolean)) ∈ wsL_law := sk_mem (ck_3 _ (List.mem_of_getElem? (i := 73) rfl)) rfl
set_option maxHeartbeats 4000000 in
set_option maxRecDepth 100000 in
theorem c_lk_hasSum (l : Launch) (D : va_G) (cI cJ cC cZ cS : ClassId) (q : Nat → Nat) (ff : Nat → Int32) (ft : Nat → Int32) (w : Int32) (hv : vp_in w 3) (hle : ft w.toNatClampNeg ≤ ff w.toNatClampNeg) : skM l yX2_hasSum cX2_hasSum 2 (some .boolean) 0 0 0 0 D (skT cI cJ cC cZ cS) [.ref (q 6), .int w] [(q 6, .inr (2, [.ref (q 24), .ref (q 25), .ref (q 26), .ref (q 27), .ref (q 28), .int 2, .int 0, .int 0, .int 0, .int 1])), (q 27, .inl (cI, 3, .inl ff)), (q 28, .inl (cI, 3, .inl ft))] (skI D (skT cI cJ cC cZ cS) (fun (r : Int32) (u : va_W) => r = 0 ∧ u = [(q 6, .inr (2, [.ref (q 24), .ref (q 25), .ref (q 26), .ref (q 27), .ref (q 28), .int 2, .int 0, .int 0, .int 0, .int 1])), (q 27, .inl (cI, 3, .inl ff)), (q 28, .inl (cI, 3, .inl ft))])) := by
  refine skM_of (by decide) (Nat.le_of_ble_eq_true rfl) ?_
  intro p e s m below meth c A ls E hP hD hl
  obtain ⟨hx, hb, hr, hml, hlocks, hin, hown, hts, hK, hA⟩ := E
  have hown : s.vm.findClass RX2 = some m.cls := hown
  have hS : va_S A s.heap s.heap [] := va_S.rf
  have hl : lv_has ls 2 [(0, .ref (q 6)), (1, .int w)] := hl
  refine lv_aload_n hx hb dX2_hasSum_0 rfl (lv_at hl 0 rfl) ?_
  refine sk_get (v := .ref (q 28)) (C := RX2) (T := TX2) (N := 10) hx hb hts inlX2 hown hK hP 0 rfl rfl 4 (by decide) w_1_186 rfl dX2_hasSum_1 ?_
  refine lv_iload_n hx hb dX2_hasSum_4 rfl (lv_at hl 1 rfl) ?_
  refine va_iald hx hb hK.1 hP 2 0 rfl rfl hv dX2_hasSum_5 ?_
  refine lv_topi (fun v_1 ev_1 => ?_)
  refine lv_aload_n hx hb dX2_hasSum_6 rfl (lv_at hl 0 rfl) ?_
  refine sk_get (v := .ref (q 27)) (C := RX2) (T := TX2) (N := 10) hx hb hts inlX2 hown hK hP 0 rfl rfl 3 (by decide) w_1_184 rfl dX2_hasSum_7 ?_
  refine lv_iload_n hx hb dX2_hasSum_10 rfl (lv_at hl 1 rfl) ?_
  refine va_iald hx hb hK.1 hP 1 0 rfl rfl hv dX2_hasSum_11 ?_
  refine lv_topi (fun v_2 ev_2 => ?_)
  refine lv_icmp_le (tgt := 19) hx hb dX2_hasSum_12 (by decide) (fun c_3 => ?_) (fun c => absurd (by rw [ev_1, ev_2]; exact hle) c)
  refine lv_iconst (v := 0) hx hb dX2_hasSum_19 (by decide) ?_
  exact sk_iret hx hb hr rfl hlocks hK hP hD hS (⟨rfl, rfl⟩) (Nat.le_of_ble_eq_true rfl) (Nat.le_of_ble_eq_true rfl) dX2_hasSum_20
theorem dX2_beginSum_0 : decode cX2_beginSum 0 = .ok (.aload_n 0, 1) := by decide +kernel
theorem dX2_beginSum_1 : decode cX2_beginSum 1 = .ok (.getfield 25, 3) := by decide +kernel
theorem dX2_beginSum_4 : decode cX2_beginSum 4 = .ok (.iload_n 1, 1) := by decide +kernel
theorem dX2_beginSum_5 : decode cX2_beginSum 5 = .ok (.aload_n 0, 1) := by decide +kernel
theorem dX2_beginSum_6 : decode cX2_beginSum 6 = .ok (.getfield 12, 3) := by decide +kernel
theorem dX2_beginSum_9 : decode cX2_beginSum 9 = .ok (.getfield 56, 3) := by decide +kernel
theorem dX2_beginSum_12 : decode cX2_beginSum 12 = .ok (.iastore, 1) := by decide +kernel
theorem dX2_beginSum_13 : decode cX2_beginSum 13 = .ok (.return_, 1) := by decide +kernel
theorem w_1_134 : (Cond.fieldLink RX2 56 "SameKeeper$Code" "length" "I") ∈ wsL_law := sk_mem (ck_1 _ (List.mem_of_getElem? (i := 134) rfl)) rfl
theorem w_3_79 : (Cond.code yX2_beginSum cX2_beginSum 2 none) ∈ wsL_law := sk_mem (ck_3 _ (List.mem_of_getElem? (i := 79) rfl)) rfl
set_option maxHeartbeats 4000000 in
set_option maxRecDepth 100000 in
theorem c_lk_begin (l : Launch) (D : va_G) (cI cJ cC cZ cS : ClassId) (q : Nat → Nat) (ff : Nat → Int32) (w : Int32) (ln : Int32) (hv : vp_in w 3) : skM l yX2_beginSum cX2_beginSum 2 none 0 0 0 0 D (skT cI cJ cC cZ cS) [.ref (q 6), .int w] [(q 6, .inr (2, [.ref (q 24), .ref (q 25), .ref (q 26), .ref (q 27), .ref (q 28), .int 2, .int 0, .int 0, .int 0, .int 1])), (q 24, .inr (0, [.ref (q 29), .ref (q 30), .ref (q 31), .ref (q 32), .int ln, .int 0])), (q 27, .inl (cI, 3, .inl ff))] (skV D (skT cI cJ cC cZ cS) (fun (u : va_W) => u = [(q 6, .inr (2, [.ref (q 24), .ref (q 25), .ref (q 26), .ref (q 27), .ref (q 28), .int 2, .int 0, .int 0, .int 0, .int 1])), (q 24, .inr (0, [.ref (q 29), .ref (q 30), .ref (q 31), .ref (q 32), .int ln, .int 0])), (q 27, .inl (cI, 3, .inl (upd ff (Int32.toNatClampNeg w) ln)))])) := by
  refine skM_of (by decide) (Nat.le_of_ble_eq_true rfl) ?_
  intro p e s m below meth c A ls E hP hD hl
  obtain ⟨hx, hb, hr, hml, hlocks, hin, hown, hts, hK, hA⟩ := E
  have hown : s.vm.findClass RX2 = some m.cls := hown
  have hS : va_S A s.heap s.heap [] := va_S.rf
  have hl : lv_has ls 2 [(0, .ref (q 6)), (1, .int w)] := hl
  refine lv_aload_n hx hb dX2_beginSum_0 rfl (lv_at hl 0 rfl) ?_
  refine sk_get (v := .ref (q 27)) (C := RX2) (T := TX2) (N := 10) hx hb hts inlX2 hown hK hP 0 rfl rfl 3 (by decide) w_1_184 rfl dX2_beginSum_1 ?_
  refine lv_iload_n hx hb dX2_beginSum_4 rfl (lv_at hl 1 rfl) ?_
  refine lv_aload_n hx hb dX2_beginSum_5 rfl (lv_at hl 0 rfl) ?_
  refine sk_get (v := .ref (q 24)) (C := RX2) (T := TX2) (N := 10) hx hb hts inlX2 hown hK hP 0 rfl rfl 0 (by decide) w_1_175 rfl dX2_beginSum_6 ?_
  refine sk_get (v := .int ln) (C := RX0) (T := TX0) (N := 6) hx hb hts inlX0 hown hK hP 1 rfl rfl 4 (by decide) w_1_134 rfl dX2_beginSum_9 ?_
  refine sk_iast (ws' := [(q 6, .inr (2, [.ref (q 24), .ref (q 25), .ref (q 26), .ref (q 27), .ref (q 28), .int 2, .int 0, .int 0, .int 0, .int 1])), (q 24, .inr (0, [.ref (q 29), .ref (q 30), .ref (q 31), .ref (q 32), .int ln, .int 0])), (q 27, .inl (cI, 3, .inl (upd ff (Int32.toNatClampNeg w) ln)))]) hx hb hK hP hD hS 2 0 rfl rfl hv rfl dX2_beginSum_12 (fun H locs hP hD hS => ?_)
  exact sk_vret hx hb hr hlocks hK hP hD hS rfl (Nat.le_of_ble_eq_true rfl) (Nat.le_of_ble_eq_true rfl) dX2_beginSum_13
theorem dX2_endSum_0 : decode cX2_endSum 0 = .ok (.aload_n 0, 1) := by decide +kernel
theorem dX2_endSum_1 : decode cX2_endSum 1 = .ok (.getfield 28, 3) := by decide +kernel
theorem dX2_endSum_4 : decode cX2_endSum 4 = .ok (.iload_n 1, 1) := by decide +kernel
theorem dX2_endSum_5 : decode cX2_endSum 5 = .ok (.aload_n 0, 1) := by decide +kernel
theorem dX2_endSum_6 : decode cX2_endSum 6 = .ok (.getfield 12, 3) := by decide +kernel
theorem dX2_endSum_9 : decode cX2_endSum 9 = .ok (.getfield 56, 3) := by decide +kernel
theorem dX2_endSum_12 : decode cX2_endSum 12 = .ok (.iastore, 1) := by decide +kernel
theorem dX2_endSum_13 : decode cX2_endSum 13 = .ok (.return_, 1) := by decide +kernel
theorem w_3_126 : (Cond.code yX2_endSum cX2_endSum 2 none) ∈ wsL_law := sk_mem (ck_3 _ (List.mem_of_getElem? (i := 126) rfl)) rfl
set_option maxHeartbeats 4000000 in
set_option maxRecDepth 100000 in
theorem c_lk_end (l : Launch) (D : va_G) (cI cJ cC cZ cS : ClassId) (q : Nat → Nat) (ft : Nat → Int32) (w : Int32) (ln : Int32) (hv : vp_in w 3) : skM l yX2_endSum cX2_endSum 2 none 0 0 0 0 D (skT cI cJ cC cZ cS) [.ref (q 6), .int w] [(q 6, .inr (2, [.ref (q 24), .ref (q 25), .ref (q 26), .ref (q 27), .ref (q 28), .int 2, .int 0, .int 0, .int 0, .int 1])), (q 24, .inr (0, [.ref (q 29), .ref (q 30), .ref (q 31), .ref (q 32), .int ln, .int 0])), (q 28, .inl (cI, 3, .inl ft))] (skV D (skT cI cJ cC cZ cS) (fun (u : va_W) => u = [(q 6, .inr (2, [.ref (q 24), .ref (q 25), .ref (q 26), .ref (q 27), .ref (q 28), .int 2, .int 0, .int 0, .int 0, .int 1])), (q 24, .inr (0, [.ref (q 29), .ref (q 30), .ref (q 31), .ref (q 32), .int ln, .int 0])), (q 28, .inl (cI, 3, .inl (upd ft (Int32.toNatClampNeg w) ln)))])) := by
  refine skM_of (by decide) (Nat.le_of_ble_eq_true rfl) ?_
  intro p e s m below meth c A ls E hP hD hl
  obtain ⟨hx, hb, hr, hml, hlocks, hin, hown, hts, hK, hA⟩ := E
  have hown : s.vm.findClass RX2 = some m.cls := hown
  have hS : va_S A s.heap s.heap [] := va_S.rf
  have hl : lv_has ls 2 [(0, .ref (q 6)), (1, .int w)] := hl
  refine lv_aload_n hx hb dX2_endSum_0 rfl (lv_at hl 0 rfl) ?_
  refine sk_get (v := .ref (q 28)) (C := RX2) (T := TX2) (N := 10) hx hb hts inlX2 hown hK hP 0 rfl rfl 4 (by decide) w_1_186 rfl dX2_endSum_1 ?_
  refine lv_iload_n hx hb dX2_endSum_4 rfl (lv_at hl 1 rfl) ?_
  refine lv_aload_n hx hb dX2_endSum_5 rfl (lv_at hl 0 rfl) ?_
  refine sk_get (v := .ref (q 24)) (C := RX2) (T := TX2) (N := 10) hx hb hts inlX2 hown hK hP 0 rfl rfl 0 (by decide) w_1_175 rfl dX2_endSum_6 ?_
  refine sk_get (v := .int ln) (C := RX0) (T := TX0) (N := 6) hx hb hts inlX0 hown hK hP 1 rfl rfl 4 (by decide) w_1_134 rfl dX2_endSum_9 ?_
  refine sk_iast (ws' := [(q 6, .inr (2, [.ref (q 24), .ref (q 25), .ref (q 26), .ref (q 27), .ref (q 28), .int 2, .int 0, .int 0, .int 0, .int 1])), (q 24, .inr (0, [.ref (q 29), .ref (q 30), .ref (q 31), .ref (q 32), .int ln, .int 0])), (q 28, .inl (cI, 3, .inl (upd ft (Int32.toNatClampNeg w) ln)))]) hx hb hK hP hD hS 2 0 rfl rfl hv rfl dX2_endSum_12 (fun H locs hP hD hS => ?_)
  exact sk_vret hx hb hr hlocks hK hP hD hS rfl (Nat.le_of_ble_eq_true rfl) (Nat.le_of_ble_eq_true rfl) dX2_endSum_13
theorem dX0_add_0 : decode cX0_add 0 = .ok (.aload_n 0, 1) := by decide +kernel
theorem dX0_add_1 : decode cX0_add 1 = .ok (.getfield 27, 3) := by decide +kernel
theorem dX0_add_4 : decode cX0_add 4 = .ok (.aload_n 0, 1) := by decide +kernel
theorem dX0_add_5 : decode cX0_add 5 = .ok (.getfield 11, 3) := by decide +kernel
theorem dX0_add_8 : decode cX0_add 8 = .ok (.arraylength, 1) := by decide +kernel
theorem dX0_add_9 : decode cX0_add 9 = .ok (.if_icmp .ge 23, 3) := by decide +kernel
theorem dX0_add_12 : decode cX0_add 12 = .ok (.aload_n 0, 1) := by decide +kernel
theorem dX0_add_13 : decode cX0_add 13 = .ok (.getfield 11, 3) := by decide +kernel
theorem dX0_add_16 : decode cX0_add 16 = .ok (.aload_n 0, 1) := by decide +kernel
theorem dX0_add_17 : decode cX0_add 17 = .ok (.getfield 27, 3) := by decide +kernel
theorem dX0_add_20 : decode cX0_add 20 = .ok (.iload_n 1, 1) := by decide +kernel
theorem dX0_add_21 : decode cX0_add 21 = .ok (.iastore, 1) := by decide +kernel
theorem dX0_add_22 : decode cX0_add 22 = .ok (.aload_n 0, 1) := by decide +kernel
theorem dX0_add_23 : decode cX0_add 23 = .ok (.dup, 1) := by decide +kernel
theorem dX0_add_24 : decode cX0_add 24 = .ok (.getfield 27, 3) := by decide +kernel
theorem dX0_add_27 : decode cX0_add 27 = .ok (.iconst 1, 1) := by decide +kernel
theorem dX0_add_28 : decode cX0_add 28 = .ok (.iadd, 1) := by decide +kernel
theorem dX0_add_29 : decode cX0_add 29 = .ok (.putfield 27, 3) := by decide +kernel
theorem dX0_add_32 : decode cX0_add 32 = .ok (.aload_n 0, 1) := by decide +kernel
theorem dX0_add_33 : decode cX0_add 33 = .ok (.dup, 1) := by decide +kernel
theorem dX0_add_34 : decode cX0_add 34 = .ok (.getfield 31, 3) := by decide +kernel
theorem dX0_add_37 : decode cX0_add 37 = .ok (.iload_n 1, 1) := by decide +kernel
theorem dX0_add_38 : decode cX0_add 38 = .ok (.sipush 10004, 3) := by decide +kernel
theorem dX0_add_41 : decode cX0_add 41 = .ok (.if_icmp .ne 7, 3) := by decide +kernel
theorem dX0_add_48 : decode cX0_add 48 = .ok (.iconst 0, 1) := by decide +kernel
theorem dX0_add_49 : decode cX0_add 49 = .ok (.ior, 1) := by decide +kernel
theorem dX0_add_50 : decode cX0_add 50 = .ok (.putfield 31, 3) := by decide +kernel
theorem dX0_add_53 : decode cX0_add 53 = .ok (.return_, 1) := by decide +kernel
theorem w_3_100 : (Cond.code yX0_add cX0_add 2 none) ∈ wsL_law := sk_mem (ck_3 _ (List.mem_of_getElem? (i := 100) rfl)) rfl
set_option maxHeartbeats 4000000 in
set_option maxRecDepth 100000 in
theorem c_code_add (l : Launch) (D : va_G) (cI cJ cC cZ cS : ClassId) (q : Nat → Nat) (ln : Int32) (o : Int32) (f : Nat → Int32) (hl1 : ¬ (1600 : Int32) ≤ ln) (hv1 : vp_in ln 1600) (hno : ¬ o = 10004) : skM l yX0_add cX0_add 2 none 0 0 0 0 D (skT cI cJ cC cZ cS) [.ref (q 24), .int o] [(q 24, .inr (0, [.ref (q 29), .ref (q 30), .ref (q 31), .ref (q 32), .int ln, .int 0])), (q 29, .inl (cI, 1600, .inl f))] (skV D (skT cI cJ cC cZ cS) (fun (u : va_W) => ∃ (f2 : Nat → Int32), u = [(q 24, .inr (0, [.ref (q 29), .ref (q 30), .ref (q 31), .ref (q 32), .int (ln + 1), .int 0])), (q 29, .inl (cI, 1600, .inl f2))])) := by
  refine skM_of (by decide) (Nat.le_of_ble_eq_true rfl) ?_
  intro p e s m below meth c A ls E hP hD hl
  obtain ⟨hx, hb, hr, hml, hlocks, hin, hown, hts, hK, hA⟩ := E
  have hown : s.vm.findClass RX0 = some m.cls := hown
  have hS : va_S A s.heap s.heap [] := va_S.rf
  have hl : lv_has ls 2 [(0, .ref (q 24)), (1, .int o)] := hl
  refine lv_aload_n hx hb dX0_add_0 rfl (lv_at hl 0 rfl) ?_
  refine sk_get (v := .int ln) (C := RX0) (T := TX0) (N := 6) hx hb hts inlX0 hown hK hP 0 rfl rfl 4 (by decide) w_1_133 rfl dX0_add_1 ?_
  refine lv_aload_n hx hb dX0_add_4 rfl (lv_at hl 0 rfl) ?_
  refine sk_get (v := .ref (q 29)) (C := RX0) (T := TX0) (N := 6) hx hb hts inlX0 hown hK hP 0 rfl rfl 0 (by decide) w_1_129 rfl dX0_add_5 ?_
  refine va_alen (v := 1600) hx hb hK.1 hP 1 0 rfl rfl rfl dX0_add_8 ?_
  refine lv_icmp_ge (tgt := 32) hx hb dX0_add_9 (by decide) (fun c => absurd c (hl1)) (fun c_1 => ?_)
  refine lv_aload_n hx hb dX0_add_12 rfl (lv_at hl 0 rfl) ?_
  refine sk_get (v := .ref (q 29)) (C := RX0) (T := TX0) (N := 6) hx hb hts inlX0 hown hK hP 0 rfl rfl 0 (by decide) w_1_129 rfl dX0_add_13 ?_
  refine lv_aload_n hx hb dX0_add_16 rfl (lv_at hl 0 rfl) ?_
  refine sk_get (v := .int ln) (C := RX0) (T := TX0) (N := 6) hx hb hts inlX0 hown hK hP 0 rfl rfl 4 (by decide) w_1_133 rfl dX0_add_17 ?_
  refine lv_iload_n hx hb dX0_add_20 rfl (lv_at hl 1 rfl) ?_
  refine sk_iastO (ws' := fun f_2 => [(q 24, .inr (0, [.ref (q 29), .ref (q 30), .ref (q 31), .ref (q 32), .int ln, .int 0])), (q 29, .inl (cI, 1600, .inl f_2))]) hx hb hK hP hD hS 1 0 rfl rfl hv1 (fun _ => rfl) dX0_add_21 (fun f_2 H locs hP hD hS => ?_)
  refine lv_aload_n hx hb dX0_add_22 rfl (lv_at hl 0 rfl) ?_
  refine lv_dup hx hb dX0_add_23 rfl ?_
  refine sk_get (v := .int ln) (C := RX0) (T := TX0) (N := 6) hx hb hts inlX0 hown hK hP 0 rfl rfl 4 (by decide) w_1_133 rfl dX0_add_24 ?_
  refine lv_iconst (v := 1) hx hb dX0_add_27 (by decide) ?_
  refine lv_iadd hx hb dX0_add_28 ?_
  refine lv_topi (fun v_3 ev_3 => ?_)
  refine sk_put (ws' := [(q 24, .inr (0, [.ref (q 29), .ref (q 30), .ref (q 31), .ref (q 32), .int v_3, .int 0])), (q 29, .inl (cI, 1600, .inl f_2))]) (C := RX0) (T := TX0) (N := 6) (v := .int v_3) hx hb hts inlX0 tyX0 tyX0_ok nmX0 hown hK hP hD hS 0 rfl rfl 4 (by decide) w_1_133 rfl rfl rfl (Nat.le_of_ble_eq_true rfl) rfl dX0_add_29 (fun H locs hP hD hS => ?_)
  refine lv_aload_n hx hb dX0_add_32 rfl (lv_at hl 0 rfl) ?_
  refine lv_dup hx hb dX0_add_33 rfl ?_
  refine sk_get (v := .int 0) (C := RX0) (T := TX0) (N := 6) hx hb hts inlX0 hown hK hP 0 rfl rfl 5 (by decide) w_1_136 rfl dX0_add_34 ?_
  refine lv_iload_n hx hb dX0_add_37 rfl (lv_at hl 1 rfl) ?_
  refine lv_sipush (v := 10004) hx hb dX0_add_38 (by decide) ?_
  refine lv_icmp_ne (tgt := 48) hx hb dX0_add_41 (by decide) (fun c_4 => ?_) (fun c => absurd c (hno))
  refine lv_iconst (v := 0) hx hb dX0_add_48 (by decide) ?_
  refine lv_ior hx hb dX0_add_49 ?_
  refine sk_top 0 (by decide) ?_
  refine sk_put (ws' := [(q 24, .inr (0, [.ref (q 29), .ref (q 30), .ref (q 31), .ref (q 32), .int v_3, .int 0])), (q 29, .inl (cI, 1600, .inl f_2))]) (C := RX0) (T := TX0) (N := 6) (v := .int 0) hx hb hts inlX0 tyX0 tyX0_ok nmX0 hown hK hP hD hS 0 rfl rfl 5 (by decide) w_1_136 rfl rfl rfl (Nat.le_of_ble_eq_true rfl) rfl dX0_add_50 (fun H locs hP hD hS => ?_)
  subst ev_3
  exact sk_vret hx hb hr hlocks hK hP hD hS (⟨f_2, rfl⟩) (Nat.le_of_ble_eq_true rfl) (Nat.le_of_ble_eq_true rfl) dX0_add_53
theorem dX2_addUntold_0 : decode cX2_addUntold 0 = .ok (.iconst 0, 1) := by decide +kernel
theorem dX2_addUntold_1 : decode cX2_addUntold 1 = .ok (.istore_n 1, 1) := by decide +kernel
theorem dX2_addUntold_2 : decode cX2_addUntold 2 = .ok (.iload_n 1, 1) := by decide +kernel
theorem dX2_addUntold_3 : decode cX2_addUntold 3 = .ok (.iconst 2, 1) := by decide +kernel
theorem dX2_addUntold_4 : decode cX2_addUntold 4 = .ok (.if_icmp .gt 48, 3) := by decide +kernel
theorem dX2_addUntold_7 : decode cX2_addUntold 7 = .ok (.aload_n 0, 1) := by decide +kernel
theorem dX2_addUntold_8 : decode cX2_addUntold 8 = .ok (.iload_n 1, 1) := by decide +kernel
theorem dX2_addUntold_9 : decode cX2_addUntold 9 = .ok (.invokevirtual 59, 3) := by decide +kernel
theorem dX2_addUntold_12 : decode cX2_addUntold 12 = .ok (.ifCond .ne 34, 3) := by decide +kernel
theorem dX2_addUntold_15 : decode cX2_addUntold 15 = .ok (.aload_n 0, 1) := by decide +kernel
theorem dX2_addUntold_16 : decode cX2_addUntold 16 = .ok (.iload_n 1, 1) := by decide +kernel
theorem dX2_addUntold_17 : decode cX2_addUntold 17 = .ok (.invokevirtual 63, 3) := by decide +kernel
theorem dX2_addUntold_20 : decode cX2_addUntold 20 = .ok (.aload_n 0, 1) := by decide +kernel
theorem dX2_addUntold_21 : decode cX2_addUntold 21 = .ok (.getfield 12, 3) := by decide +kernel
theorem dX2_addUntold_24 : decode cX2_addUntold 24 = .ok (.iload_n 1, 1) := by decide +kernel
theorem dX2_addUntold_25 : decode cX2_addUntold 25 = .ok (.iconst 1, 1) := by decide +kernel
theorem dX2_addUntold_26 : decode cX2_addUntold 26 = .ok (.if_icmp .ne 9, 3) := by decide +kernel
theorem dX2_addUntold_35 : decode cX2_addUntold 35 = .ok (.sipush 10000, 3) := by decide +kernel
theorem dX2_addUntold_38 : decode cX2_addUntold 38 = .ok (.invokevirtual 67, 3) := by decide +kernel
theorem dX2_addUntold_41 : decode cX2_addUntold 41 = .ok (.aload_n 0, 1) := by decide +kernel
theorem dX2_addUntold_42 : decode cX2_addUntold 42 = .ok (.iload_n 1, 1) := by decide +kernel
theorem dX2_addUntold_43 : decode cX2_addUntold 43 = .ok (.invokevirtual 70, 3) := by decide +kernel
theorem dX2_addUntold_46 : decode cX2_addUntold 46 = .ok (.iinc 1 1, 3) := by decide +kernel
theorem dX2_addUntold_49 : decode cX2_addUntold 49 = .ok (.goto (-47), 3) := by decide +kernel
theorem dX2_addUntold_29 : decode cX2_addUntold 29 = .ok (.sipush 10005, 3) := by decide +kernel
theorem dX2_addUntold_32 : decode cX2_addUntold 32 = .ok (.goto 6, 3) := by decide +kernel
theorem dX2_addUntold_52 : decode cX2_addUntold 52 = .ok (.return_, 1) := by decide +kernel
theorem w_3_144 : (Cond.methodLink RX2 59 yX2_hasSum) ∈ wsL_law := sk_mem (ck_3 _ (List.mem_of_getElem? (i := 144) rfl)) rfl
theorem w_3_71 : (Cond.instanceMethod yX2_hasSum) ∈ wsL_law := sk_mem (ck_3 _ (List.mem_of_getElem? (i := 71) rfl)) rfl
theorem w_3_72 : (Cond.selects RX2 yX2_hasSum yX2_hasSum) ∈ wsL_law := sk_mem (ck_3 _ (List.mem_of_getElem? (i := 72) rfl)) rfl
theorem w_3_145 : (Cond.methodLink RX2 63 yX2_beginSum) ∈ wsL_law := sk_mem (ck_3 _ (List.mem_of_getElem? (i := 145) rfl)) rfl
theorem w_3_77 : (Cond.instanceMethod yX2_beginSum) ∈ wsL_law := sk_mem (ck_3 _ (List.mem_of_getElem? (i := 77) rfl)) rfl
theorem w_3_78 : (Cond.selects RX2 yX2_beginSum yX2_beginSum) ∈ wsL_law := sk_mem (ck_3 _ (List.mem_of_getElem? (i := 78) rfl)) rfl
theorem w_3_146 : (Cond.methodLink RX2 67 yX0_add) ∈ wsL_law := sk_mem (ck_3 _ (List.mem_of_getElem? (i := 146) rfl)) rfl
theorem w_3_98 : (Cond.instanceMethod yX0_add) ∈ wsL_law := sk_mem (ck_3 _ (List.mem_of_getElem? (i := 98) rfl)) rfl
theorem w_3_99 : (Cond.selects RX0 yX0_add yX0_add) ∈ wsL_law := sk_mem (ck_3 _ (List.mem_of_getElem? (i := 99) rfl)) rfl
theorem w_3_147 : (Cond.methodLink RX2 70 yX2_endSum) ∈ wsL_law := sk_mem (ck_3 _ (List.mem_of_getElem? (i := 147) rfl)) rfl
theorem w_3_124 : (Cond.instanceMethod yX2_endSum) ∈ wsL_law := sk_mem (ck_3 _ (List.mem_of_getElem? (i := 124) rfl)) rfl
theorem w_3_125 : (Cond.selects RX2 yX2_endSum yX2_endSum) ∈ wsL_law := sk_mem (ck_3 _ (List.mem_of_getElem? (i := 125) rfl)) rfl
theorem w_3_143 : (Cond.code yX2_addUntold cX2_addUntold 2 none) ∈ wsL_law := sk_mem (ck_3 _ (List.mem_of_getElem? (i := 143) rfl)) rfl
set_option maxHeartbeats 4000000 in
set_option maxRecDepth 100000 in
theorem c_lk_addUntold (l : Launch) (D : va_G) (cI cJ cC cZ cS : ClassId) (q : Nat → Nat)  : skM l yX2_addUntold cX2_addUntold 2 none 1 21 0 0 D (skT cI cJ cC cZ cS) [.ref (q 6)] [(q 6, .inr (2, [.ref (q 24), .ref (q 25), .ref (q 26), .ref (q 27), .ref (q 28), .int 2, .int 0, .int 0, .int 0, .int 1])), (q 24, .inr (0, [.ref (q 29), .ref (q 30), .ref (q 31), .ref (q 32), .int 0, .int 0])), (q 29, .inl (cI, 1600, .inl (fun _ => 0))), (q 27, .inl (cI, 3, .inl (fun _ => 0))), (q 28, .inl (cI, 3, .inl (fun _ => 0)))] (skV D (skT cI cJ cC cZ cS) (fun (u : va_W) => u = [])) := by
  refine skM_of (by decide) (Nat.le_of_ble_eq_true rfl) ?_
  intro p e s m below meth c A ls E hP hD hl
  obtain ⟨hx, hb, hr, hml, hlocks, hin, hown, hts, hK, hA⟩ := E
  have hown : s.vm.findClass RX2 = some m.cls := hown
  have hS : va_S A s.heap s.heap [] := va_S.rf
  have hl : lv_has ls 2 [(0, .ref (q 6))] := hl
  refine lv_iconst (v := 0) hx hb dX2_addUntold_0 (by decide) ?_
  refine lv_istore_n (lv' := [(1, .int 0), (0, .ref (q 6))]) hx hb dX2_addUntold_1 rfl hl (by decide) rfl (fun ls hl => ?_)
  refine lv_iload_n hx hb dX2_addUntold_2 rfl (lv_at hl 0 rfl) ?_
  refine lv_iconst (v := 2) hx hb dX2_addUntold_3 (by decide) ?_
  refine lv_icmp_gt (tgt := 52) hx hb dX2_addUntold_4 (by decide) (fun c => absurd c (by decide)) (fun c_1 => ?_)
  refine lv_aload_n hx hb dX2_addUntold_7 rfl (lv_at hl 1 rfl) ?_
  refine lv_iload_n hx hb dX2_addUntold_8 rfl (lv_at hl 0 rfl) ?_
  refine sk_Vi (q0 := 0) (n := 1) (rest := []) (wr := [(q 24, .inr (0, [.ref (q 29), .ref (q 30), .ref (q 31), .ref (q 32), .int 0, .int 0])), (q 29, .inl (cI, 1600, .inl (fun _ => 0)))]) ⟨hx, hb, hml, hown, hts⟩ hl.1 (c_lk_hasSum l D cI cJ cC cZ cS q (fun _ => 0) (fun _ => 0) 0 (by unfold vp_in; decide) (by decide)) w_3_144 w_3_71 w_3_72 w_1_9 w_3_73 (by decide +kernel) ⟨⟨(Nat.le_of_ble_eq_true rfl), (Nat.le_of_ble_eq_true rfl)⟩, (Nat.le_of_ble_eq_true rfl), (Nat.le_of_ble_eq_true rfl)⟩ hK hP hD hS hA [0, 3, 4] [1, 2] rfl rfl (by decide) (by decide) (by decide) rfl rfl rfl rfl (Nat.le_of_ble_eq_true rfl) dX2_addUntold_9 (fun r_2 u H locs hw hP hD hS => ?_)
  obtain ⟨rfl, rfl⟩ := hw
  have hP : va_P D vwCl [(q 24, .inr (0, [.ref (q 29), .ref (q 30), .ref (q 31), .ref (q 32), .int 0, .int 0])), (q 29, .inl (cI, 1600, .inl (fun _ => 0))), (q 6, .inr (2, [.ref (q 24), .ref (q 25), .ref (q 26), .ref (q 27), .ref (q 28), .int 2, .int 0, .int 0, .int 0, .int 1])), (q 27, .inl (cI, 3, .inl (fun _ => 0))), (q 28, .inl (cI, 3, .inl (fun _ => 0)))] H := hP
  have hD : va_D A [(q 24, .inr (0, [.ref (q 29), .ref (q 30), .ref (q 31), .ref (q 32), .int 0, .int 0])), (q 29, .inl (cI, 1600, .inl (fun _ => 0))), (q 6, .inr (2, [.ref (q 24), .ref (q 25), .ref (q 26), .ref (q 27), .ref (q 28), .int 2, .int 0, .int 0, .int 0, .int 1])), (q 27, .inl (cI, 3, .inl (fun _ => 0))), (q 28, .inl (cI, 3, .inl (fun _ => 0)))] := hD
  refine W.widen (k := 0) (n := 0) (Nat.le_of_ble_eq_true rfl) (Nat.le_of_ble_eq_true rfl) ?_
  refine lv_if_ne (tgt := 46) hx hb dX2_addUntold_12 (by decide) (fun c => absurd c (by decide)) (fun c_3 => ?_)
  refine lv_aload_n hx hb dX2_addUntold_15 rfl (lv_at hl 1 rfl) ?_
  refine lv_iload_n hx hb dX2_addUntold_16 rfl (lv_at hl 0 rfl) ?_
  refine sk_Vv (q0 := 0) (n := 1) (rest := []) (wr := [(q 29, .inl (cI, 1600, .inl (fun _ => 0))), (q 28, .inl (cI, 3, .inl (fun _ => 0)))]) ⟨hx, hb, hml, hown, hts⟩ hl.1 (c_lk_begin l D cI cJ cC cZ cS q (fun _ => 0) 0 0 (by unfold vp_in; decide)) w_3_145 w_3_77 w_3_78 w_1_9 w_3_79 (by decide +kernel) ⟨⟨(Nat.le_of_ble_eq_true rfl), (Nat.le_of_ble_eq_true rfl)⟩, (Nat.le_of_ble_eq_true rfl), (Nat.le_of_ble_eq_true rfl)⟩ hK hP hD hS hA [2, 0, 3] [1, 4] rfl rfl (by decide) (by decide) (by decide) rfl rfl rfl rfl (Nat.le_of_ble_eq_true rfl) dX2_addUntold_17 (fun u H locs hw hP hD hS => ?_)
  obtain rfl := hw
  have hP : va_P D vwCl [(q 29, .inl (cI, 1600, .inl (fun _ => 0))), (q 28, .inl (cI, 3, .inl (fun _ => 0))), (q 6, .inr (2, [.ref (q 24), .ref (q 25), .ref (q 26), .ref (q 27), .ref (q 28), .int 2, .int 0, .int 0, .int 0, .int 1])), (q 24, .inr (0, [.ref (q 29), .ref (q 30), .ref (q 31), .ref (q 32), .int 0, .int 0])), (q 27, .inl (cI, 3, .inl (upd (fun _ => 0) (Int32.toNatClampNeg 0) 0)))] H := hP
  have hD : va_D A [(q 29, .inl (cI, 1600, .inl (fun _ => 0))), (q 28, .inl (cI, 3, .inl (fun _ => 0))), (q 6, .inr (2, [.ref (q 24), .ref (q 25), .ref (q 26), .ref (q 27), .ref (q 28), .int 2, .int 0, .int 0, .int 0, .int 1])), (q 24, .inr (0, [.ref (q 29), .ref (q 30), .ref (q 31), .ref (q 32), .int 0, .int 0])), (q 27, .inl (cI, 3, .inl (upd (fun _ => 0) (Int32.toNatClampNeg 0) 0)))] := hD
  refine W.widen (k := 0) (n := 0) (Nat.le_of_ble_eq_true rfl) (Nat.le_of_ble_eq_true rfl) ?_
  refine lv_aload_n hx hb dX2_addUntold_20 rfl (lv_at hl 1 rfl) ?_
  refine sk_get (v := .ref (q 24)) (C := RX2) (T := TX2) (N := 10) hx hb hts inlX2 hown hK hP 2 rfl rfl 0 (by decide) w_1_175 rfl dX2_addUntold_21 ?_
  refine lv_iload_n hx hb dX2_addUntold_24 rfl (lv_at hl 0 rfl) ?_
  refine lv_iconst (v := 1) hx hb dX2_addUntold_25 (by decide) ?_
  refine lv_icmp_ne (tgt := 35) hx hb dX2_addUntold_26 (by decide) (fun c_4 => ?_) (fun c => absurd c (by decide))
  refine lv_sipush (v := 10000) hx hb dX2_addUntold_35 (by decide) ?_
  refine sk_Vv (q0 := 0) (n := 1) (rest := []) (wr := [(q 28, .inl (cI, 3, .inl (fun _ => 0))), (q 6, .inr (2, [.ref (q 24), .ref (q 25), .ref (q 26), .ref (q 27), .ref (q 28), .int 2, .int 0, .int 0, .int 0, .int 1])), (q 27, .inl (cI, 3, .inl (upd (fun _ => 0) (Int32.toNatClampNeg 0) 0)))]) ⟨hx, hb, hml, hown, hts⟩ hl.1 (c_code_add l D cI cJ cC cZ cS q 0 10000 (fun _ => 0) (by decide) (by unfold vp_in; decide) (by decide)) w_3_146 w_3_98 w_3_99 w_1_8 w_3_100 (by decide +kernel) ⟨⟨(Nat.le_of_ble_eq_true rfl), (Nat.le_of_ble_eq_true rfl)⟩, (Nat.le_of_ble_eq_true rfl), (Nat.le_of_ble_eq_true rfl)⟩ hK hP hD hS hA [3, 0] [1, 2, 4] rfl rfl (by decide) (by decide) (by decide) rfl rfl rfl rfl (Nat.le_of_ble_eq_true rfl) dX2_addUntold_38 (fun u H locs hw hP hD hS => ?_)
  obtain ⟨f2_5, rfl⟩ := hw
  have hP : va_P D vwCl [(q 28, .inl (cI, 3, .inl (fun _ => 0))), (q 6, .inr (2, [.ref (q 24), .ref (q 25), .ref (q 26), .ref (q 27), .ref (q 28), .int 2, .int 0, .int 0, .int 0, .int 1])), (q 27, .inl (cI, 3, .inl (upd (fun _ => 0) (Int32.toNatClampNeg 0) 0))), (q 24, .inr (0, [.ref (q 29), .ref (q 30), .ref (q 31), .ref (q 32), .int 1, .int 0])), (q 29, .inl (cI, 1600, .inl f2_5))] H := hP
  have hD : va_D A [(q 28, .inl (cI, 3, .inl (fun _ => 0))), (q 6, .inr (2, [.ref (q 24), .ref (q 25), .ref (q 26), .ref (q 27), .ref (q 28), .int 2, .int 0, .int 0, .int 0, .int 1])), (q 27, .inl (cI, 3, .inl (upd (fun _ => 0) (Int32.toNatClampNeg 0) 0))), (q 24, .inr (0, [.ref (q 29), .ref (q 30), .ref (q 31), .ref (q 32), .int 1, .int 0])), (q 29, .inl (cI, 1600, .inl f2_5))] := hD
  refine W.widen (k := 0) (n := 0) (Nat.le_of_ble_eq_true rfl) (Nat.le_of_ble_eq_true rfl) ?_
  refine lv_aload_n hx hb dX2_addUntold_41 rfl (lv_at hl 1 rfl) ?_
  refine lv_iload_n hx hb dX2_addUntold_42 rfl (lv_at hl 0 rfl) ?_
  refine sk_Vv (q0 := 0) (n := 1) (rest := []) (wr := [(q 27, .inl (cI, 3, .inl (upd (fun _ => 0) (Int32.toNatClampNeg 0) 0))), (q 29, .inl (cI, 1600, .inl f2_5))]) ⟨hx, hb, hml, hown, hts⟩ hl.1 (c_lk_end l D cI cJ cC cZ cS q (fun _ => 0) 0 1 (by unfold vp_in; decide)) w_3_147 w_3_124 w_3_125 w_1_9 w_3_126 (by decide +kernel) ⟨⟨(Nat.le_of_ble_eq_true rfl), (Nat.le_of_ble_eq_true rfl)⟩, (Nat.le_of_ble_eq_true rfl), (Nat.le_of_ble_eq_true rfl)⟩ hK hP hD hS hA [1, 3, 0] [2, 4] rfl rfl (by decide) (by decide) (by decide) rfl rfl rfl rfl (Nat.le_of_ble_eq_true rfl) dX2_addUntold_43 (fun u H locs hw hP hD hS => ?_)
  obtain rfl := hw
  have hP : va_P D vwCl [(q 27, .inl (cI, 3, .inl (upd (fun _ => 0) (Int32.toNatClampNeg 0) 0))), (q 29, .inl (cI, 1600, .inl f2_5)), (q 6, .inr (2, [.ref (q 24), .ref (q 25), .ref (q 26), .ref (q 27), .ref (q 28), .int 2, .int 0, .int 0, .int 0, .int 1])), (q 24, .inr (0, [.ref (q 29), .ref (q 30), .ref (q 31), .ref (q 32), .int 1, .int 0])), (q 28, .inl (cI, 3, .inl (upd (fun _ => 0) (Int32.toNatClampNeg 0) 1)))] H := hP
  have hD : va_D A [(q 27, .inl (cI, 3, .inl (upd (fun _ => 0) (Int32.toNatClampNeg 0) 0))), (q 29, .inl (cI, 1600, .inl f2_5)), (q 6, .inr (2, [.ref (q 24), .ref (q 25), .ref (q 26), .ref (q 27), .ref (q 28), .int 2, .int 0, .int 0, .int 0, .int 1])), (q 24, .inr (0, [.ref (q 29), .ref (q 30), .ref (q 31), .ref (q 32), .int 1, .int 0])), (q 28, .inl (cI, 3, .inl (upd (fun _ => 0) (Int32.toNatClampNeg 0) 1)))] := hD
  refine W.widen (k := 0) (n := 0) (Nat.le_of_ble_eq_true rfl) (Nat.le_of_ble_eq_true rfl) ?_
  refine lv_iinc (v := 1) (lv' := [(1, .int 1), (0, .ref (q 6))]) hx hb dX2_addUntold_46 hl (k := 0) rfl (by decide) (by decide) rfl (fun ls hl => ?_)
  refine lv_goto (tgt := 2) hx hb dX2_addUntold_49 (by decide) ?_
  refine lv_iload_n hx hb dX2_addUntold_2 rfl (lv_at hl 0 rfl) ?_
  refine lv_iconst (v := 2) hx hb dX2_addUntold_3 (by decide) ?_
  refine lv_icmp_gt (tgt := 52) hx hb dX2_addUntold_4 (by decide) (fun c => absurd c (by decide)) (fun c_6 => ?_)
  refine lv_aload_n hx hb dX2_addUntold_7 rfl (lv_at hl 1 rfl) ?_
  refine lv_iload_n hx hb dX2_addUntold_8 rfl (lv_at hl 0 rfl) ?_
  refine sk_Vi (q0 := 0) (n := 1) (rest := []) (wr := [(q 29, .inl (cI, 1600, .inl f2_5)), (q 24, .inr (0, [.ref (q 29), .ref (q 30), .ref (q 31), .ref (q 32), .int 1, .int 0]))]) ⟨hx, hb, hml, hown, hts⟩ hl.1 (c_lk_hasSum l D cI cJ cC cZ cS q (upd (fun _ => 0) (Int32.toNatClampNeg 0) 0) (upd (fun _ => 0) (Int32.toNatClampNeg 0) 1) 1 (by unfold vp_in; decide) (by decide)) w_3_144 w_3_71 w_3_72 w_1_9 w_3_73 (by decide +kernel) ⟨⟨(Nat.le_of_ble_eq_true rfl), (Nat.le_of_ble_eq_true rfl)⟩, (Nat.le_of_ble_eq_true rfl), (Nat.le_of_ble_eq_true rfl)⟩ hK hP hD hS hA [2, 0, 4] [1, 3] rfl rfl (by decide) (by decide) (by decide) rfl rfl rfl rfl (Nat.le_of_ble_eq_true rfl) dX2_addUntold_9 (fun r_7 u H locs hw hP hD hS => ?_)
  obtain ⟨rfl, rfl⟩ := hw
  have hP : va_P D vwCl [(q 29, .inl (cI, 1600, .inl f2_5)), (q 24, .inr (0, [.ref (q 29), .ref (q 30), .ref (q 31), .ref (q 32), .int 1, .int 0])), (q 6, .inr (2, [.ref (q 24), .ref (q 25), .ref (q 26), .ref (q 27), .ref (q 28), .int 2, .int 0, .int 0, .int 0, .int 1])), (q 27, .inl (cI, 3, .inl (upd (fun _ => 0) (Int32.toNatClampNeg 0) 0))), (q 28, .inl (cI, 3, .inl (upd (fun _ => 0) (Int32.toNatClampNeg 0) 1)))] H := hP
  have hD : va_D A [(q 29, .inl (cI, 1600, .inl f2_5)), (q 24, .inr (0, [.ref (q 29), .ref (q 30), .ref (q 31), .ref (q 32), .int 1, .int 0])), (q 6, .inr (2, [.ref (q 24), .ref (q 25), .ref (q 26), .ref (q 27), .ref (q 28), .int 2, .int 0, .int 0, .int 0, .int 1])), (q 27, .inl (cI, 3, .inl (upd (fun _ => 0) (Int32.toNatClampNeg 0) 0))), (q 28, .inl (cI, 3, .inl (upd (fun _ => 0) (Int32.toNatClampNeg 0) 1)))] := hD
  refine W.widen (k := 0) (n := 0) (Nat.le_of_ble_eq_true rfl) (Nat.le_of_ble_eq_true rfl) ?_
  refine lv_if_ne (tgt := 46) hx hb dX2_addUntold_12 (by decide) (fun c => absurd c (by decide)) (fun c_8 => ?_)
  refine lv_aload_n hx hb dX2_addUntold_15 rfl (lv_at hl 1 rfl) ?_
  refine lv_iload_n hx hb dX2_addUntold_16 rfl (lv_at hl 0 rfl) ?_
  refine sk_Vv (q0 := 0) (n := 1) (rest := []) (wr := [(q 29, .inl (cI, 1600, .inl f2_5)), (q 28, .inl (cI, 3, .inl (upd (fun _ => 0) (Int32.toNatClampNeg 0) 1)))]) ⟨hx, hb, hml, hown, hts⟩ hl.1 (c_lk_begin l D cI cJ cC cZ cS q (upd (fun _ => 0) (Int32.toNatClampNeg 0) 0) 1 1 (by unfold vp_in; decide)) w_3_145 w_3_77 w_3_78 w_1_9 w_3_79 (by decide +kernel) ⟨⟨(Nat.le_of_ble_eq_true rfl), (Nat.le_of_ble_eq_true rfl)⟩, (Nat.le_of_ble_eq_true rfl), (Nat.le_of_ble_eq_true rfl)⟩ hK hP hD hS hA [2, 1, 3] [0, 4] rfl rfl (by decide) (by decide) (by decide) rfl rfl rfl rfl (Nat.le_of_ble_eq_true rfl) dX2_addUntold_17 (fun u H locs hw hP hD hS => ?_)
  obtain rfl := hw
  have hP : va_P D vwCl [(q 29, .inl (cI, 1600, .inl f2_5)), (q 28, .inl (cI, 3, .inl (upd (fun _ => 0) (Int32.toNatClampNeg 0) 1))), (q 6, .inr (2, [.ref (q 24), .ref (q 25), .ref (q 26), .ref (q 27), .ref (q 28), .int 2, .int 0, .int 0, .int 0, .int 1])), (q 24, .inr (0, [.ref (q 29), .ref (q 30), .ref (q 31), .ref (q 32), .int 1, .int 0])), (q 27, .inl (cI, 3, .inl (upd (upd (fun _ => 0) (Int32.toNatClampNeg 0) 0) (Int32.toNatClampNeg 1) 1)))] H := hP
  have hD : va_D A [(q 29, .inl (cI, 1600, .inl f2_5)), (q 28, .inl (cI, 3, .inl (upd (fun _ => 0) (Int32.toNatClampNeg 0) 1))), (q 6, .inr (2, [.ref (q 24), .ref (q 25), .ref (q 26), .ref (q 27), .ref (q 28), .int 2, .int 0, .int 0, .int 0, .int 1])), (q 24, .inr (0, [.ref (q 29), .ref (q 30), .ref (q 31), .ref (q 32), .int 1, .int 0])), (q 27, .inl (cI, 3, .inl (upd (upd (fun _ => 0) (Int32.toNatClampNeg 0) 0) (Int32.toNatClampNeg 1) 1)))] := hD
  refine W.widen (k := 0) (n := 0) (Nat.le_of_ble_eq_true rfl) (Nat.le_of_ble_eq_true rfl) ?_
  refine lv_aload_n hx hb dX2_addUntold_20 rfl (lv_at hl 1 rfl) ?_
  refine sk_get (v := .ref (q 24)) (C := RX2) (T := TX2) (N := 10) hx hb hts inlX2 hown hK hP 2 rfl rfl 0 (by decide) w_1_175 rfl dX2_addUntold_21 ?_
  refine lv_iload_n hx hb dX2_addUntold_24 rfl (lv_at hl 0 rfl) ?_
  refine lv_iconst (v := 1) hx hb dX2_addUntold_25 (by decide) ?_
  refine lv_icmp_ne (tgt := 35) hx hb dX2_addUntold_26 (by decide) (fun c => absurd c (by decide)) (fun c_9 => ?_)
  refine lv_sipush (v := 10005) hx hb dX2_addUntold_29 (by decide) ?_
  refine lv_goto (tgt := 38) hx hb dX2_addUntold_32 (by decide) ?_
  refine sk_Vv (q0 := 0) (n := 1) (rest := []) (wr := [(q 28, .inl (cI, 3, .inl (upd (fun _ => 0) (Int32.toNatClampNeg 0) 1))), (q 6, .inr (2, [.ref (q 24), .ref (q 25), .ref (q 26), .ref (q 27), .ref (q 28), .int 2, .int 0, .int 0, .int 0, .int 1])), (q 27, .inl (cI, 3, .inl (upd (upd (fun _ => 0) (Int32.toNatClampNeg 0) 0) (Int32.toNatClampNeg 1) 1)))]) ⟨hx, hb, hml, hown, hts⟩ hl.1 (c_code_add l D cI cJ cC cZ cS q 1 10005 f2_5 (by decide) (by unfold vp_in; decide) (by decide)) w_3_146 w_3_98 w_3_99 w_1_8 w_3_100 (by decide +kernel) ⟨⟨(Nat.le_of_ble_eq_true rfl), (Nat.le_of_ble_eq_true rfl)⟩, (Nat.le_of_ble_eq_true rfl), (Nat.le_of_ble_eq_true rfl)⟩ hK hP hD hS hA [3, 0] [1, 2, 4] rfl rfl (by decide) (by decide) (by decide) rfl rfl rfl rfl (Nat.le_of_ble_eq_true rfl) dX2_addUntold_38 (fun u H locs hw hP hD hS => ?_)
  obtain ⟨f2_10, rfl⟩ := hw
  have hP : va_P D vwCl [(q 28, .inl (cI, 3, .inl (upd (fun _ => 0) (Int32.toNatClampNeg 0) 1))), (q 6, .inr (2, [.ref (q 24), .ref (q 25), .ref (q 26), .ref (q 27), .ref (q 28), .int 2, .int 0, .int 0, .int 0, .int 1])), (q 27, .inl (cI, 3, .inl (upd (upd (fun _ => 0) (Int32.toNatClampNeg 0) 0) (Int32.toNatClampNeg 1) 1))), (q 24, .inr (0, [.ref (q 29), .ref (q 30), .ref (q 31), .ref (q 32), .int 2, .int 0])), (q 29, .inl (cI, 1600, .inl f2_10))] H := hP
  have hD : va_D A [(q 28, .inl (cI, 3, .inl (upd (fun _ => 0) (Int32.toNatClampNeg 0) 1))), (q 6, .inr (2, [.ref (q 24), .ref (q 25), .ref (q 26), .ref (q 27), .ref (q 28), .int 2, .int 0, .int 0, .int 0, .int 1])), (q 27, .inl (cI, 3, .inl (upd (upd (fun _ => 0) (Int32.toNatClampNeg 0) 0) (Int32.toNatClampNeg 1) 1))), (q 24, .inr (0, [.ref (q 29), .ref (q 30), .ref (q 31), .ref (q 32), .int 2, .int 0])), (q 29, .inl (cI, 1600, .inl f2_10))] := hD
  refine W.widen (k := 0) (n := 0) (Nat.le_of_ble_eq_true rfl) (Nat.le_of_ble_eq_true rfl) ?_
  refine lv_aload_n hx hb dX2_addUntold_41 rfl (lv_at hl 1 rfl) ?_
  refine lv_iload_n hx hb dX2_addUntold_42 rfl (lv_at hl 0 rfl) ?_
  refine sk_Vv (q0 := 0) (n := 1) (rest := []) (wr := [(q 27, .inl (cI, 3, .inl (upd (upd (fun _ => 0) (Int32.toNatClampNeg 0) 0) (Int32.toNatClampNeg 1) 1))), (q 29, .inl (cI, 1600, .inl f2_10))]) ⟨hx, hb, hml, hown, hts⟩ hl.1 (c_lk_end l D cI cJ cC cZ cS q (upd (fun _ => 0) (Int32.toNatClampNeg 0) 1) 1 2 (by unfold vp_in; decide)) w_3_147 w_3_124 w_3_125 w_1_9 w_3_126 (by decide +kernel) ⟨⟨(Nat.le_of_ble_eq_true rfl), (Nat.le_of_ble_eq_true rfl)⟩, (Nat.le_of_ble_eq_true rfl), (Nat.le_of_ble_eq_true rfl)⟩ hK hP hD hS hA [1, 3, 0] [2, 4] rfl rfl (by decide) (by decide) (by decide) rfl rfl rfl rfl (Nat.le_of_ble_eq_true rfl) dX2_addUntold_43 (fun u H locs hw hP hD hS => ?_)
  obtain rfl := hw
  have hP : va_P D vwCl [(q 27, .inl (cI, 3, .inl (upd (upd (fun _ => 0) (Int32.toNatClampNeg 0) 0) (Int32.toNatClampNeg 1) 1))), (q 29, .inl (cI, 1600, .inl f2_10)), (q 6, .inr (2, [.ref (q 24), .ref (q 25), .ref (q 26), .ref (q 27), .ref (q 28), .int 2, .int 0, .int 0, .int 0, .int 1])), (q 24, .inr (0, [.ref (q 29), .ref (q 30), .ref (q 31), .ref (q 32), .int 2, .int 0])), (q 28, .inl (cI, 3, .inl (upd (upd (fun _ => 0) (Int32.toNatClampNeg 0) 1) (Int32.toNatClampNeg 1) 2)))] H := hP
  have hD : va_D A [(q 27, .inl (cI, 3, .inl (upd (upd (fun _ => 0) (Int32.toNatClampNeg 0) 0) (Int32.toNatClampNeg 1) 1))), (q 29, .inl (cI, 1600, .inl f2_10)), (q 6, .inr (2, [.ref (q 24), .ref (q 25), .ref (q 26), .ref (q 27), .ref (q 28), .int 2, .int 0, .int 0, .int 0, .int 1])), (q 24, .inr (0, [.ref (q 29), .ref (q 30), .ref (q 31), .ref (q 32), .int 2, .int 0])), (q 28, .inl (cI, 3, .inl (upd (upd (fun _ => 0) (Int32.toNatClampNeg 0) 1) (Int32.toNatClampNeg 1) 2)))] := hD
  refine W.widen (k := 0) (n := 0) (Nat.le_of_ble_eq_true rfl) (Nat.le_of_ble_eq_true rfl) ?_
  refine lv_iinc (v := 2) (lv' := [(1, .int 2), (0, .ref (q 6))]) hx hb dX2_addUntold_46 hl (k := 0) rfl (by decide) (by decide) rfl (fun ls hl => ?_)
  refine lv_goto (tgt := 2) hx hb dX2_addUntold_49 (by decide) ?_
  refine lv_iload_n hx hb dX2_addUntold_2 rfl (lv_at hl 0 rfl) ?_
  refine lv_iconst (v := 2) hx hb dX2_addUntold_3 (by decide) ?_
  refine lv_icmp_gt (tgt := 52) hx hb dX2_addUntold_4 (by decide) (fun c => absurd c (by decide)) (fun c_11 => ?_)
  refine lv_aload_n hx hb dX2_addUntold_7 rfl (lv_at hl 1 rfl) ?_
  refine lv_iload_n hx hb dX2_addUntold_8 rfl (lv_at hl 0 rfl) ?_
  refine sk_Vi (q0 := 0) (n := 1) (rest := []) (wr := [(q 29, .inl (cI, 1600, .inl f2_10)), (q 24, .inr (0, [.ref (q 29), .ref (q 30), .ref (q 31), .ref (q 32), .int 2, .int 0]))]) ⟨hx, hb, hml, hown, hts⟩ hl.1 (c_lk_hasSum l D cI cJ cC cZ cS q (upd (upd (fun _ => 0) (Int32.toNatClampNeg 0) 0) (Int32.toNatClampNeg 1) 1) (upd (upd (fun _ => 0) (Int32.toNatClampNeg 0) 1) (Int32.toNatClampNeg 1) 2) 2 (by unfold vp_in; decide) (by decide)) w_3_144 w_3_71 w_3_72 w_1_9 w_3_73 (by decide +kernel) ⟨⟨(Nat.le_of_ble_eq_true rfl), (Nat.le_of_ble_eq_true rfl)⟩, (Nat.le_of_ble_eq_true rfl), (Nat.le_of_ble_eq_true rfl)⟩ hK hP hD hS hA [2, 0, 4] [1, 3] rfl rfl (by decide) (by decide) (by decide) rfl rfl rfl rfl (Nat.le_of_ble_eq_true rfl) dX2_addUntold_9 (fun r_12 u H locs hw hP hD hS => ?_)
  obtain ⟨rfl, rfl⟩ := hw
  have hP : va_P D vwCl [(q 29, .inl (cI, 1600, .inl f2_10)), (q 24, .inr (0, [.ref (q 29), .ref (q 30), .ref (q 31), .ref (q 32), .int 2, .int 0])), (q 6, .inr (2, [.ref (q 24), .ref (q 25), .ref (q 26), .ref (q 27), .ref (q 28), .int 2, .int 0, .int 0, .int 0, .int 1])), (q 27, .inl (cI, 3, .inl (upd (upd (fun _ => 0) (Int32.toNatClampNeg 0) 0) (Int32.toNatClampNeg 1) 1))), (q 28, .inl (cI, 3, .inl (upd (upd (fun _ => 0) (Int32.toNatClampNeg 0) 1) (Int32.toNatClampNeg 1) 2)))] H := hP
  have hD : va_D A [(q 29, .inl (cI, 1600, .inl f2_10)), (q 24, .inr (0, [.ref (q 29), .ref (q 30), .ref (q 31), .ref (q 32), .int 2, .int 0])), (q 6, .inr (2, [.ref (q 24), .ref (q 25), .ref (q 26), .ref (q 27), .ref (q 28), .int 2, .int 0, .int 0, .int 0, .int 1])), (q 27, .inl (cI, 3, .inl (upd (upd (fun _ => 0) (Int32.toNatClampNeg 0) 0) (Int32.toNatClampNeg 1) 1))), (q 28, .inl (cI, 3, .inl (upd (upd (fun _ => 0) (Int32.toNatClampNeg 0) 1) (Int32.toNatClampNeg 1) 2)))] := hD
  refine W.widen (k := 0) (n := 0) (Nat.le_of_ble_eq_true rfl) (Nat.le_of_ble_eq_true rfl) ?_
  refine lv_if_ne (tgt := 46) hx hb dX2_addUntold_12 (by decide) (fun c => absurd c (by decide)) (fun c_13 => ?_)
  refine lv_aload_n hx hb dX2_addUntold_15 rfl (lv_at hl 1 rfl) ?_
  refine lv_iload_n hx hb dX2_addUntold_16 rfl (lv_at hl 0 rfl) ?_
  refine sk_Vv (q0 := 0) (n := 1) (rest := []) (wr := [(q 29, .inl (cI, 1600, .inl f2_10)), (q 28, .inl (cI, 3, .inl (upd (upd (fun _ => 0) (Int32.toNatClampNeg 0) 1) (Int32.toNatClampNeg 1) 2)))]) ⟨hx, hb, hml, hown, hts⟩ hl.1 (c_lk_begin l D cI cJ cC cZ cS q (upd (upd (fun _ => 0) (Int32.toNatClampNeg 0) 0) (Int32.toNatClampNeg 1) 1) 2 2 (by unfold vp_in; decide)) w_3_145 w_3_77 w_3_78 w_1_9 w_3_79 (by decide +kernel) ⟨⟨(Nat.le_of_ble_eq_true rfl), (Nat.le_of_ble_eq_true rfl)⟩, (Nat.le_of_ble_eq_true rfl), (Nat.le_of_ble_eq_true rfl)⟩ hK hP hD hS hA [2, 1, 3] [0, 4] rfl rfl (by decide) (by decide) (by decide) rfl rfl rfl rfl (Nat.le_of_ble_eq_true rfl) dX2_addUntold_17 (fun u H locs hw hP hD hS => ?_)
  obtain rfl := hw
  have hP : va_P D vwCl [(q 29, .inl (cI, 1600, .inl f2_10)), (q 28, .inl (cI, 3, .inl (upd (upd (fun _ => 0) (Int32.toNatClampNeg 0) 1) (Int32.toNatClampNeg 1) 2))), (q 6, .inr (2, [.ref (q 24), .ref (q 25), .ref (q 26), .ref (q 27), .ref (q 28), .int 2, .int 0, .int 0, .int 0, .int 1])), (q 24, .inr (0, [.ref (q 29), .ref (q 30), .ref (q 31), .ref (q 32), .int 2, .int 0])), (q 27, .inl (cI, 3, .inl (upd (upd (upd (fun _ => 0) (Int32.toNatClampNeg 0) 0) (Int32.toNatClampNeg 1) 1) (Int32.toNatClampNeg 2) 2)))] H := hP
  have hD : va_D A [(q 29, .inl (cI, 1600, .inl f2_10)), (q 28, .inl (cI, 3, .inl (upd (upd (fun _ => 0) (Int32.toNatClampNeg 0) 1) (Int32.toNatClampNeg 1) 2))), (q 6, .inr (2, [.ref (q 24), .ref (q 25), .ref (q 26), .ref (q 27), .ref (q 28), .int 2, .int 0, .int 0, .int 0, .int 1])), (q 24, .inr (0, [.ref (q 29), .ref (q 30), .ref (q 31), .ref (q 32), .int 2, .int 0])), (q 27, .inl (cI, 3, .inl (upd (upd (upd (fun _ => 0) (Int32.toNatClampNeg 0) 0) (Int32.toNatClampNeg 1) 1) (Int32.toNatClampNeg 2) 2)))] := hD
  refine W.widen (k := 0) (n := 0) (Nat.le_of_ble_eq_true rfl) (Nat.le_of_ble_eq_true rfl) ?_
  refine lv_aload_n hx hb dX2_addUntold_20 rfl (lv_at hl 1 rfl) ?_
  refine sk_get (v := .ref (q 24)) (C := RX2) (T := TX2) (N := 10) hx hb hts inlX2 hown hK hP 2 rfl rfl 0 (by decide) w_1_175 rfl dX2_addUntold_21 ?_
  refine lv_iload_n hx hb dX2_addUntold_24 rfl (lv_at hl 0 rfl) ?_
  refine lv_iconst (v := 1) hx hb dX2_addUntold_25 (by decide) ?_
  refine lv_icmp_ne (tgt := 35) hx hb dX2_addUntold_26 (by decide) (fun c_14 => ?_) (fun c => absurd c (by decide))
  refine lv_sipush (v := 10000) hx hb dX2_addUntold_35 (by decide) ?_
  refine sk_Vv (q0 := 0) (n := 1) (rest := []) (wr := [(q 28, .inl (cI, 3, .inl (upd (upd (fun _ => 0) (Int32.toNatClampNeg 0) 1) (Int32.toNatClampNeg 1) 2))), (q 6, .inr (2, [.ref (q 24), .ref (q 25), .ref (q 26), .ref (q 27), .ref (q 28), .int 2, .int 0, .int 0, .int 0, .int 1])), (q 27, .inl (cI, 3, .inl (upd (upd (upd (fun _ => 0) (Int32.toNatClampNeg 0) 0) (Int32.toNatClampNeg 1) 1) (Int32.toNatClampNeg 2) 2)))]) ⟨hx, hb, hml, hown, hts⟩ hl.1 (c_code_add l D cI cJ cC cZ cS q 2 10000 f2_10 (by decide) (by unfold vp_in; decide) (by decide)) w_3_146 w_3_98 w_3_99 w_1_8 w_3_100 (by decide +kernel) ⟨⟨(Nat.le_of_ble_eq_true rfl), (Nat.le_of_ble_eq_true rfl)⟩, (Nat.le_of_ble_eq_true rfl), (Nat.le_of_ble_eq_true rfl)⟩ hK hP hD hS hA [3, 0] [1, 2, 4] rfl rfl (by decide) (by decide) (by decide) rfl rfl rfl rfl (Nat.le_of_ble_eq_true rfl) dX2_addUntold_38 (fun u H locs hw hP hD hS => ?_)
  obtain ⟨f2_15, rfl⟩ := hw
  have hP : va_P D vwCl [(q 28, .inl (cI, 3, .inl (upd (upd (fun _ => 0) (Int32.toNatClampNeg 0) 1) (Int32.toNatClampNeg 1) 2))), (q 6, .inr (2, [.ref (q 24), .ref (q 25), .ref (q 26), .ref (q 27), .ref (q 28), .int 2, .int 0, .int 0, .int 0, .int 1])), (q 27, .inl (cI, 3, .inl (upd (upd (upd (fun _ => 0) (Int32.toNatClampNeg 0) 0) (Int32.toNatClampNeg 1) 1) (Int32.toNatClampNeg 2) 2))), (q 24, .inr (0, [.ref (q 29), .ref (q 30), .ref (q 31), .ref (q 32), .int 3, .int 0])), (q 29, .inl (cI, 1600, .inl f2_15))] H := hP
  have hD : va_D A [(q 28, .inl (cI, 3, .inl (upd (upd (fun _ => 0) (Int32.toNatClampNeg 0) 1) (Int32.toNatClampNeg 1) 2))), (q 6, .inr (2, [.ref (q 24), .ref (q 25), .ref (q 26), .ref (q 27), .ref (q 28), .int 2, .int 0, .int 0, .int 0, .int 1])), (q 27, .inl (cI, 3, .inl (upd (upd (upd (fun _ => 0) (Int32.toNatClampNeg 0) 0) (Int32.toNatClampNeg 1) 1) (Int32.toNatClampNeg 2) 2))), (q 24, .inr (0, [.ref (q 29), .ref (q 30), .ref (q 31), .ref (q 32), .int 3, .int 0])), (q 29, .inl (cI, 1600, .inl f2_15))] := hD
  refine W.widen (k := 0) (n := 0) (Nat.le_of_ble_eq_true rfl) (Nat.le_of_ble_eq_true rfl) ?_
  refine lv_aload_n hx hb dX2_addUntold_41 rfl (lv_at hl 1 rfl) ?_
  refine lv_iload_n hx hb dX2_addUntold_42 rfl (lv_at hl 0 rfl) ?_
  refine sk_Vv (q0 := 0) (n := 1) (rest := []) (wr := [(q 27, .inl (cI, 3, .inl (upd (upd (upd (fun _ => 0) (Int32.toNatClampNeg 0) 0) (Int32.toNatClampNeg 1) 1) (Int32.toNatClampNeg 2) 2))), (q 29, .inl (cI, 1600, .inl f2_15))]) ⟨hx, hb, hml, hown, hts⟩ hl.1 (c_lk_end l D cI cJ cC cZ cS q (upd (upd (fun _ => 0) (Int32.toNatClampNeg 0) 1) (Int32.toNatClampNeg 1) 2) 2 3 (by unfold vp_in; decide)) w_3_147 w_3_124 w_3_125 w_1_9 w_3_126 (by decide +kernel) ⟨⟨(Nat.le_of_ble_eq_true rfl), (Nat.le_of_ble_eq_true rfl)⟩, (Nat.le_of_ble_eq_true rfl), (Nat.le_of_ble_eq_true rfl)⟩ hK hP hD hS hA [1, 3, 0] [2, 4] rfl rfl (by decide) (by decide) (by decide) rfl rfl rfl rfl (Nat.le_of_ble_eq_true rfl) dX2_addUntold_43 (fun u H locs hw hP hD hS => ?_)
  obtain rfl := hw
  have hP : va_P D vwCl [(q 27, .inl (cI, 3, .inl (upd (upd (upd (fun _ => 0) (Int32.toNatClampNeg 0) 0) (Int32.toNatClampNeg 1) 1) (Int32.toNatClampNeg 2) 2))), (q 29, .inl (cI, 1600, .inl f2_15)), (q 6, .inr (2, [.ref (q 24), .ref (q 25), .ref (q 26), .ref (q 27), .ref (q 28), .int 2, .int 0, .int 0, .int 0, .int 1])), (q 24, .inr (0, [.ref (q 29), .ref (q 30), .ref (q 31), .ref (q 32), .int 3, .int 0])), (q 28, .inl (cI, 3, .inl (upd (upd (upd (fun _ => 0) (Int32.toNatClampNeg 0) 1) (Int32.toNatClampNeg 1) 2) (Int32.toNatClampNeg 2) 3)))] H := hP
  have hD : va_D A [(q 27, .inl (cI, 3, .inl (upd (upd (upd (fun _ => 0) (Int32.toNatClampNeg 0) 0) (Int32.toNatClampNeg 1) 1) (Int32.toNatClampNeg 2) 2))), (q 29, .inl (cI, 1600, .inl f2_15)), (q 6, .inr (2, [.ref (q 24), .ref (q 25), .ref (q 26), .ref (q 27), .ref (q 28), .int 2, .int 0, .int 0, .int 0, .int 1])), (q 24, .inr (0, [.ref (q 29), .ref (q 30), .ref (q 31), .ref (q 32), .int 3, .int 0])), (q 28, .inl (cI, 3, .inl (upd (upd (upd (fun _ => 0) (Int32.toNatClampNeg 0) 1) (Int32.toNatClampNeg 1) 2) (Int32.toNatClampNeg 2) 3)))] := hD
  refine W.widen (k := 0) (n := 0) (Nat.le_of_ble_eq_true rfl) (Nat.le_of_ble_eq_true rfl) ?_
  refine lv_iinc (v := 3) (lv' := [(1, .int 3), (0, .ref (q 6))]) hx hb dX2_addUntold_46 hl (k := 0) rfl (by decide) (by decide) rfl (fun ls hl => ?_)
  refine lv_goto (tgt := 2) hx hb dX2_addUntold_49 (by decide) ?_
  refine lv_iload_n hx hb dX2_addUntold_2 rfl (lv_at hl 0 rfl) ?_
  refine lv_iconst (v := 2) hx hb dX2_addUntold_3 (by decide) ?_
  refine lv_icmp_gt (tgt := 52) hx hb dX2_addUntold_4 (by decide) (fun c_16 => ?_) (fun c => absurd c (by decide))
  have hP := hP.sub (ws' := []) [] rfl
  have hD := hD.sub (ws' := []) [] (by decide) rfl
  exact sk_vret hx hb hr hlocks hK hP hD hS rfl (Nat.le_of_ble_eq_true rfl) (Nat.le_of_ble_eq_true rfl) dX2_addUntold_52
theorem dX3_read_0 : decode cX3_read 0 = .ok (.aload_n 1, 1) := by decide +kernel
theorem dX3_read_1 : decode cX3_read 1 = .ok (.invokevirtual 27, 3) := by decide +kernel
theorem dX3_read_4 : decode cX3_read 4 = .ok (.aload_n 0, 1) := by decide +kernel
theorem dX3_read_5 : decode cX3_read 5 = .ok (.getfield 9, 3) := by decide +kernel
theorem dX3_read_8 : decode cX3_read 8 = .ok (.invokevirtual 32, 3) := by decide +kernel
theorem dX3_read_11 : decode cX3_read 11 = .ok (.aload_n 0, 1) := by decide +kernel
theorem dX3_read_12 : decode cX3_read 12 = .ok (.aload_n 1, 1) := by decide +kernel
theorem dX3_read_13 : decode cX3_read 13 = .ok (.invokevirtual 37, 3) := by decide +kernel
theorem dX3_read_16 : decode cX3_read 16 = .ok (.aload_n 1, 1) := by decide +kernel
theorem dX3_read_17 : decode cX3_read 17 = .ok (.getfield 41, 3) := by decide +kernel
theorem dX3_read_20 : decode cX3_read 20 = .ok (.bipush 60, 2) := by decide +kernel
theorem dX3_read_22 : decode cX3_read 22 = .ok (.if_icmp .ge 124, 3) := by decide +kernel
theorem dX3_read_25 : decode cX3_read 25 = .ok (.aload_n 0, 1) := by decide +kernel
theorem dX3_read_26 : decode cX3_read 26 = .ok (.getfield 9, 3) := by decide +kernel
theorem dX3_read_29 : decode cX3_read 29 = .ok (.getfield 45, 3) := by decide +kernel
theorem dX3_read_32 : decode cX3_read 32 = .ok (.ifCond .ne 114, 3) := by decide +kernel
theorem dX3_read_146 : decode cX3_read 146 = .ok (.aload_n 0, 1) := by decide +kernel
theorem dX3_read_147 : decode cX3_read 147 = .ok (.getfield 9, 3) := by decide +kernel
theorem dX3_read_150 : decode cX3_read 150 = .ok (.getfield 45, 3) := by decide +kernel
theorem dX3_read_153 : decode cX3_read 153 = .ok (.ifCond .ne 29, 3) := by decide +kernel
theorem dX3_read_182 : decode cX3_read 182 = .ok (.aload_n 1, 1) := by decide +kernel
theorem dX3_read_183 : decode cX3_read 183 = .ok (.invokevirtual 69, 3) := by decide +kernel
theorem dX3_read_186 : decode cX3_read 186 = .ok (.return_, 1) := by decide +kernel
theorem w_2_210 : (Cond.methodLink RX3 27 yX2_clear) ∈ wsL_law := sk_mem (ck_2 _ (List.mem_of_getElem? (i := 210) rfl)) rfl
theorem w_2_211 : (Cond.instanceMethod yX2_clear) ∈ wsL_law := sk_mem (ck_2 _ (List.mem_of_getElem? (i := 211) rfl)) rfl
theorem w_2_212 : (Cond.selects RX2 yX2_clear yX2_clear) ∈ wsL_law := sk_mem (ck_2 _ (List.mem_of_getElem? (i := 212) rfl)) rfl
theorem w_2_221 : (Cond.methodLink RX3 32 yX6_begin) ∈ wsL_law := sk_mem (ck_2 _ (List.mem_of_getElem? (i := 221) rfl)) rfl
theorem w_2_222 : (Cond.instanceMethod yX6_begin) ∈ wsL_law := sk_mem (ck_2 _ (List.mem_of_getElem? (i := 222) rfl)) rfl
theorem w_2_223 : (Cond.selects RX6 yX6_begin yX6_begin) ∈ wsL_law := sk_mem (ck_2 _ (List.mem_of_getElem? (i := 223) rfl)) rfl
theorem w_3_46 : (Cond.methodLink RX3 37 yX3_readOpening) ∈ wsL_law := sk_mem (ck_3 _ (List.mem_of_getElem? (i := 46) rfl)) rfl
theorem w_3_48 : (Cond.instanceMethod yX3_readOpening) ∈ wsL_law := sk_mem (ck_3 _ (List.mem_of_getElem? (i := 48) rfl)) rfl
theorem w_0_4 : (Cond.selects RX3 yX3_readOpening yX3_readOpening) ∈ wsL_law := sk_mem (ck_0 _ (List.mem_of_getElem? (i := 4) rfl)) rfl
theorem w_1_67 : (Cond.fieldLink RX3 45 "SameKeeper$Reader" "fault" "I") ∈ wsL_law := sk_mem (ck_1 _ (List.mem_of_getElem? (i := 67) rfl)) rfl
theorem w_3_140 : (Cond.methodLink RX3 69 yX2_addUntold) ∈ wsL_law := sk_mem (ck_3 _ (List.mem_of_getElem? (i := 140) rfl)) rfl
theorem w_3_141 : (Cond.instanceMethod yX2_addUntold) ∈ wsL_law := sk_mem (ck_3 _ (List.mem_of_getElem? (i := 141) rfl)) rfl
theorem w_3_142 : (Cond.selects RX2 yX2_addUntold yX2_addUntold) ∈ wsL_law := sk_mem (ck_3 _ (List.mem_of_getElem? (i := 142) rfl)) rfl
theorem w_2_209 : (Cond.code yX3_read cX3_read 2 none) ∈ wsL_law := sk_mem (ck_2 _ (List.mem_of_getElem? (i := 209) rfl)) rfl
set_option maxHeartbeats 4000000 in
set_option maxRecDepth 100000 in
theorem c_lt_read (l : Launch) (D : va_G) (cI cJ cC cZ cS : ClassId) (q : Nat → Nat)  : skM l yX3_read cX3_read 2 none 4 86 0 0 D (skT cI cJ cC cZ cS) [.ref (q 3), .ref (q 6)] [(q 3, .inr (3, [.ref (q 2), .ref (q 22), .ref (q 23)])), (q 2, .inr (6, [.ref (q 0), .int 0, .int 0, .int 0, .int (-1), .int 0, .int 0, .int (-1)])), (q 0, .inr (10, [.ref (q 20), .int 0])), (q 6, .inr (2, [.ref (q 24), .ref (q 25), .ref (q 26), .ref (q 27), .ref (q 28), .int 0, .int 0, .int 0, .int 0, .int 0])), (q 24, .inr (0, [.ref (q 29), .ref (q 30), .ref (q 31), .ref (q 32), .int 0, .int 0])), (q 29, .inl (cI, 1600, .inl (fun _ => 0))), (q 25, .inl (cI, 9, .inl (fun _ => 0))), (q 26, .inl (cI, 9, .inl (fun _ => 0))), (q 27, .inl (cI, 3, .inl (fun _ => 0))), (q 28, .inl (cI, 3, .inl (fun _ => 0)))] (skV D (skT cI cJ cC cZ cS) (fun (u : va_W) => u = [(q 0, .inr (10, [.ref (q 20), .int 0])), (q 2, .inr (6, [.ref (q 0), .int 0, .int 0, .int 0, .int (-2), .int 0, .int 1, .int 0]))])) := by
  refine skM_of (by decide) (Nat.le_of_ble_eq_true rfl) ?_
  intro p e s m below meth c A ls E hP hD hl
  obtain ⟨hx, hb, hr, hml, hlocks, hin, hown, hts, hK, hA⟩ := E
  have hown : s.vm.findClass RX3 = some m.cls := hown
  have hS : va_S A s.heap s.heap [] := va_S.rf
  have hl : lv_has ls 2 [(0, .ref (q 3)), (1, .ref (q 6))] := hl
  refine lv_aload_n hx hb dX3_read_0 rfl (lv_at hl 1 rfl) ?_
  refine sk_Vv (q0 := 0) (n := 0) (rest := []) (wr := [(q 3, .inr (3, [.ref (q 2), .ref (q 22), .ref (q 23)])), (q 2, .inr (6, [.ref (q 0), .int 0, .int 0, .int 0, .int (-1), .int 0, .int 0, .int (-1)])), (q 0, .inr (10, [.ref (q 20), .int 0])), (q 29, .inl (cI, 1600, .inl (fun _ => 0)))]) ⟨hx, hb, hml, hown, hts⟩ hl.1 (c_lock_clear l D cI cJ cC cZ cS q) w_2_210 w_2_211 w_2_212 w_1_9 w_2_213 (by decide +kernel) ⟨⟨(Nat.le_of_ble_eq_true rfl), (Nat.le_of_ble_eq_true rfl)⟩, (Nat.le_of_ble_eq_true rfl), (Nat.le_of_ble_eq_true rfl)⟩ hK hP hD hS hA [3, 4, 6, 7, 8, 9] [0, 1, 2, 5] rfl rfl (by decide) (by decide) (by decide) rfl rfl rfl rfl (Nat.le_of_ble_eq_true rfl) dX3_read_1 (fun u H locs hw hP hD hS => ?_)
  obtain rfl := hw
  have hP : va_P D vwCl [(q 3, .inr (3, [.ref (q 2), .ref (q 22), .ref (q 23)])), (q 2, .inr (6, [.ref (q 0), .int 0, .int 0, .int 0, .int (-1), .int 0, .int 0, .int (-1)])), (q 0, .inr (10, [.ref (q 20), .int 0])), (q 29, .inl (cI, 1600, .inl (fun _ => 0))), (q 6, .inr (2, [.ref (q 24), .ref (q 25), .ref (q 26), .ref (q 27), .ref (q 28), .int 0, .int 0, .int 0, .int 0, .int 0])), (q 24, .inr (0, [.ref (q 29), .ref (q 30), .ref (q 31), .ref (q 32), .int 0, .int 0])), (q 25, .inl (cI, 9, .inl (fun _ => 0))), (q 26, .inl (cI, 9, .inl (fun _ => 0))), (q 27, .inl (cI, 3, .inl (fun _ => 0))), (q 28, .inl (cI, 3, .inl (fun _ => 0)))] H := hP
  have hD : va_D A [(q 3, .inr (3, [.ref (q 2), .ref (q 22), .ref (q 23)])), (q 2, .inr (6, [.ref (q 0), .int 0, .int 0, .int 0, .int (-1), .int 0, .int 0, .int (-1)])), (q 0, .inr (10, [.ref (q 20), .int 0])), (q 29, .inl (cI, 1600, .inl (fun _ => 0))), (q 6, .inr (2, [.ref (q 24), .ref (q 25), .ref (q 26), .ref (q 27), .ref (q 28), .int 0, .int 0, .int 0, .int 0, .int 0])), (q 24, .inr (0, [.ref (q 29), .ref (q 30), .ref (q 31), .ref (q 32), .int 0, .int 0])), (q 25, .inl (cI, 9, .inl (fun _ => 0))), (q 26, .inl (cI, 9, .inl (fun _ => 0))), (q 27, .inl (cI, 3, .inl (fun _ => 0))), (q 28, .inl (cI, 3, .inl (fun _ => 0)))] := hD
  refine W.widen (k := 0) (n := 0) (Nat.le_of_ble_eq_true rfl) (Nat.le_of_ble_eq_true rfl) ?_
  refine lv_aload_n hx hb dX3_read_4 rfl (lv_at hl 0 rfl) ?_
  refine sk_get (v := .ref (q 2)) (C := RX3) (T := TX3) (N := 3) hx hb hts inlX3 hown hK hP 0 rfl rfl 0 (by decide) w_1_107 rfl dX3_read_5 ?_
  refine sk_Vv (q0 := 0) (n := 0) (rest := []) (wr := [(q 3, .inr (3, [.ref (q 2), .ref (q 22), .ref (q 23)])), (q 29, .inl (cI, 1600, .inl (fun _ => 0))), (q 6, .inr (2, [.ref (q 24), .ref (q 25), .ref (q 26), .ref (q 27), .ref (q 28), .int 0, .int 0, .int 0, .int 0, .int 0])), (q 24, .inr (0, [.ref (q 29), .ref (q 30), .ref (q 31), .ref (q 32), .int 0, .int 0])), (q 25, .inl (cI, 9, .inl (fun _ => 0))), (q 26, .inl (cI, 9, .inl (fun _ => 0))), (q 27, .inl (cI, 3, .inl (fun _ => 0))), (q 28, .inl (cI, 3, .inl (fun _ => 0)))]) ⟨hx, hb, hml, hown, hts⟩ hl.1 (c_rd_begin l D cI cJ cC cZ cS q) w_2_221 w_2_222 w_2_223 w_1_4 w_2_224 (by decide +kernel) ⟨⟨(Nat.le_of_ble_eq_true rfl), (Nat.le_of_ble_eq_true rfl)⟩, (Nat.le_of_ble_eq_true rfl), (Nat.le_of_ble_eq_true rfl)⟩ hK hP hD hS hA [1, 2] [0, 3, 4, 5, 6, 7, 8, 9] rfl rfl (by decide) (by decide) (by decide) rfl rfl rfl rfl (Nat.le_of_ble_eq_true rfl) dX3_read_8 (fun u H locs hw hP hD hS => ?_)
  obtain rfl := hw
  have hP : va_P D vwCl [(q 3, .inr (3, [.ref (q 2), .ref (q 22), .ref (q 23)])), (q 29, .inl (cI, 1600, .inl (fun _ => 0))), (q 6, .inr (2, [.ref (q 24), .ref (q 25), .ref (q 26), .ref (q 27), .ref (q 28), .int 0, .int 0, .int 0, .int 0, .int 0])), (q 24, .inr (0, [.ref (q 29), .ref (q 30), .ref (q 31), .ref (q 32), .int 0, .int 0])), (q 25, .inl (cI, 9, .inl (fun _ => 0))), (q 26, .inl (cI, 9, .inl (fun _ => 0))), (q 27, .inl (cI, 3, .inl (fun _ => 0))), (q 28, .inl (cI, 3, .inl (fun _ => 0))), (q 2, .inr (6, [.ref (q 0), .int 0, .int 0, .int 0, .int (-1), .int 0, .int 0, .int (-1)])), (q 0, .inr (10, [.ref (q 20), .int 0]))] H := hP
  have hD : va_D A [(q 3, .inr (3, [.ref (q 2), .ref (q 22), .ref (q 23)])), (q 29, .inl (cI, 1600, .inl (fun _ => 0))), (q 6, .inr (2, [.ref (q 24), .ref (q 25), .ref (q 26), .ref (q 27), .ref (q 28), .int 0, .int 0, .int 0, .int 0, .int 0])), (q 24, .inr (0, [.ref (q 29), .ref (q 30), .ref (q 31), .ref (q 32), .int 0, .int 0])), (q 25, .inl (cI, 9, .inl (fun _ => 0))), (q 26, .inl (cI, 9, .inl (fun _ => 0))), (q 27, .inl (cI, 3, .inl (fun _ => 0))), (q 28, .inl (cI, 3, .inl (fun _ => 0))), (q 2, .inr (6, [.ref (q 0), .int 0, .int 0, .int 0, .int (-1), .int 0, .int 0, .int (-1)])), (q 0, .inr (10, [.ref (q 20), .int 0]))] := hD
  refine W.widen (k := 0) (n := 0) (Nat.le_of_ble_eq_true rfl) (Nat.le_of_ble_eq_true rfl) ?_
  refine lv_aload_n hx hb dX3_read_11 rfl (lv_at hl 0 rfl) ?_
  refine lv_aload_n hx hb dX3_read_12 rfl (lv_at hl 1 rfl) ?_
  refine sk_Vv (q0 := 0) (n := 1) (rest := []) (wr := [(q 29, .inl (cI, 1600, .inl (fun _ => 0))), (q 24, .inr (0, [.ref (q 29), .ref (q 30), .ref (q 31), .ref (q 32), .int 0, .int 0])), (q 25, .inl (cI, 9, .inl (fun _ => 0))), (q 26, .inl (cI, 9, .inl (fun _ => 0))), (q 27, .inl (cI, 3, .inl (fun _ => 0))), (q 28, .inl (cI, 3, .inl (fun _ => 0))), (q 0, .inr (10, [.ref (q 20), .int 0]))]) ⟨hx, hb, hml, hown, hts⟩ hl.1 (c_lt_opening l D cI cJ cC cZ cS q) w_3_46 w_3_48 w_0_4 w_1_5 w_3_49 (by decide +kernel) ⟨⟨(Nat.le_of_ble_eq_true rfl), (Nat.le_of_ble_eq_true rfl)⟩, (Nat.le_of_ble_eq_true rfl), (Nat.le_of_ble_eq_true rfl)⟩ hK hP hD hS hA [0, 8, 2] [1, 3, 4, 5, 6, 7, 9] rfl rfl (by decide) (by decide) (by decide) rfl rfl rfl rfl (Nat.le_of_ble_eq_true rfl) dX3_read_13 (fun u H locs hw hP hD hS => ?_)
  obtain rfl := hw
  have hP : va_P D vwCl [(q 29, .inl (cI, 1600, .inl (fun _ => 0))), (q 24, .inr (0, [.ref (q 29), .ref (q 30), .ref (q 31), .ref (q 32), .int 0, .int 0])), (q 25, .inl (cI, 9, .inl (fun _ => 0))), (q 26, .inl (cI, 9, .inl (fun _ => 0))), (q 27, .inl (cI, 3, .inl (fun _ => 0))), (q 28, .inl (cI, 3, .inl (fun _ => 0))), (q 0, .inr (10, [.ref (q 20), .int 0])), (q 3, .inr (3, [.ref (q 2), .ref (q 22), .ref (q 23)])), (q 2, .inr (6, [.ref (q 0), .int 0, .int 0, .int 0, .int (-2), .int 0, .int 1, .int 0])), (q 6, .inr (2, [.ref (q 24), .ref (q 25), .ref (q 26), .ref (q 27), .ref (q 28), .int 2, .int 0, .int 0, .int 0, .int 1]))] H := hP
  have hD : va_D A [(q 29, .inl (cI, 1600, .inl (fun _ => 0))), (q 24, .inr (0, [.ref (q 29), .ref (q 30), .ref (q 31), .ref (q 32), .int 0, .int 0])), (q 25, .inl (cI, 9, .inl (fun _ => 0))), (q 26, .inl (cI, 9, .inl (fun _ => 0))), (q 27, .inl (cI, 3, .inl (fun _ => 0))), (q 28, .inl (cI, 3, .inl (fun _ => 0))), (q 0, .inr (10, [.ref (q 20), .int 0])), (q 3, .inr (3, [.ref (q 2), .ref (q 22), .ref (q 23)])), (q 2, .inr (6, [.ref (q 0), .int 0, .int 0, .int 0, .int (-2), .int 0, .int 1, .int 0])), (q 6, .inr (2, [.ref (q 24), .ref (q 25), .ref (q 26), .ref (q 27), .ref (q 28), .int 2, .int 0, .int 0, .int 0, .int 1]))] := hD
  refine W.widen (k := 0) (n := 0) (Nat.le_of_ble_eq_true rfl) (Nat.le_of_ble_eq_true rfl) ?_
  refine lv_aload_n hx hb dX3_read_16 rfl (lv_at hl 1 rfl) ?_
  refine sk_get (v := .int 1) (C := RX2) (T := TX2) (N := 10) hx hb hts inlX2 hown hK hP 9 rfl rfl 9 (by decide) w_1_201 rfl dX3_read_17 ?_
  refine lv_bipush (v := 60) hx hb dX3_read_20 (by decide) ?_
  refine lv_icmp_ge (tgt := 146) hx hb dX3_read_22 (by decide) (fun c => absurd c (by decide)) (fun c_1 => ?_)
  refine lv_aload_n hx hb dX3_read_25 rfl (lv_at hl 0 rfl) ?_
  refine sk_get (v := .ref (q 2)) (C := RX3) (T := TX3) (N := 3) hx hb hts inlX3 hown hK hP 7 rfl rfl 0 (by decide) w_1_107 rfl dX3_read_26 ?_
  refine sk_get (v := .int 1) (C := RX6) (T := TX6) (N := 8) hx hb hts inlX6 hown hK hP 8 rfl rfl 6 (by decide) w_1_67 rfl dX3_read_29 ?_
  refine lv_if_ne (tgt := 146) hx hb dX3_read_32 (by decide) (fun c_2 => ?_) (fun c => absurd c (by decide))
  refine lv_aload_n hx hb dX3_read_146 rfl (lv_at hl 0 rfl) ?_
  refine sk_get (v := .ref (q 2)) (C := RX3) (T := TX3) (N := 3) hx hb hts inlX3 hown hK hP 7 rfl rfl 0 (by decide) w_1_107 rfl dX3_read_147 ?_
  refine sk_get (v := .int 1) (C := RX6) (T := TX6) (N := 8) hx hb hts inlX6 hown hK hP 8 rfl rfl 6 (by decide) w_1_67 rfl dX3_read_150 ?_
  refine lv_if_ne (tgt := 182) hx hb dX3_read_153 (by decide) (fun c_3 => ?_) (fun c => absurd c (by decide))
  refine lv_aload_n hx hb dX3_read_182 rfl (lv_at hl 1 rfl) ?_
  refine sk_Vv (q0 := 0) (n := 0) (rest := []) (wr := [(q 25, .inl (cI, 9, .inl (fun _ => 0))), (q 26, .inl (cI, 9, .inl (fun _ => 0))), (q 0, .inr (10, [.ref (q 20), .int 0])), (q 3, .inr (3, [.ref (q 2), .ref (q 22), .ref (q 23)])), (q 2, .inr (6, [.ref (q 0), .int 0, .int 0, .int 0, .int (-2), .int 0, .int 1, .int 0]))]) ⟨hx, hb, hml, hown, hts⟩ hl.1 (c_lk_addUntold l D cI cJ cC cZ cS q) w_3_140 w_3_141 w_3_142 w_1_9 w_3_143 (by decide +kernel) ⟨⟨(Nat.le_of_ble_eq_true rfl), (Nat.le_of_ble_eq_true rfl)⟩, (Nat.le_of_ble_eq_true rfl), (Nat.le_of_ble_eq_true rfl)⟩ hK hP hD hS hA [9, 1, 0, 4, 5] [2, 3, 6, 7, 8] rfl rfl (by decide) (by decide) (by decide) rfl rfl rfl rfl (Nat.le_of_ble_eq_true rfl) dX3_read_183 (fun u H locs hw hP hD hS => ?_)
  obtain rfl := hw
  have hP : va_P D vwCl [(q 25, .inl (cI, 9, .inl (fun _ => 0))), (q 26, .inl (cI, 9, .inl (fun _ => 0))), (q 0, .inr (10, [.ref (q 20), .int 0])), (q 3, .inr (3, [.ref (q 2), .ref (q 22), .ref (q 23)])), (q 2, .inr (6, [.ref (q 0), .int 0, .int 0, .int 0, .int (-2), .int 0, .int 1, .int 0]))] H := hP
  have hD : va_D A [(q 25, .inl (cI, 9, .inl (fun _ => 0))), (q 26, .inl (cI, 9, .inl (fun _ => 0))), (q 0, .inr (10, [.ref (q 20), .int 0])), (q 3, .inr (3, [.ref (q 2), .ref (q 22), .ref (q 23)])), (q 2, .inr (6, [.ref (q 0), .int 0, .int 0, .int 0, .int (-2), .int 0, .int 1, .int 0]))] := hD
  refine W.widen (k := 0) (n := 0) (Nat.le_of_ble_eq_true rfl) (Nat.le_of_ble_eq_true rfl) ?_
  have hP := hP.sub (ws' := [(q 0, .inr (10, [.ref (q 20), .int 0])), (q 2, .inr (6, [.ref (q 0), .int 0, .int 0, .int 0, .int (-2), .int 0, .int 1, .int 0]))]) [2, 4] rfl
  have hD := hD.sub (ws' := [(q 0, .inr (10, [.ref (q 20), .int 0])), (q 2, .inr (6, [.ref (q 0), .int 0, .int 0, .int 0, .int (-2), .int 0, .int 1, .int 0]))]) [2, 4] (by decide) rfl
  exact sk_vret hx hb hr hlocks hK hP hD hS rfl (Nat.le_of_ble_eq_true rfl) (Nat.le_of_ble_eq_true rfl) dX3_read_186
theorem dX11_lock_0 : decode cX11_lock 0 = .ok (.aload_n 0, 1) := by decide +kernel
theorem dX11_lock_1 : decode cX11_lock 1 = .ok (.getfield 35, 3) := by decide +kernel
theorem dX11_lock_4 : decode cX11_lock 4 = .ok (.aload_n 0, 1) := by decide +kernel
theorem dX11_lock_5 : decode cX11_lock 5 = .ok (.getfield 53, 3) := by decide +kernel
theorem dX11_lock_8 : decode cX11_lock 8 = .ok (.invokevirtual 124, 3) := by decide +kernel
theorem dX11_lock_11 : decode cX11_lock 11 = .ok (.aload_n 0, 1) := by decide +kernel
theorem dX11_lock_12 : decode cX11_lock 12 = .ok (.getfield 12, 3) := by decide +kernel
theorem dX11_lock_15 : decode cX11_lock 15 = .ok (.iconst 0, 1) := by decide +kernel
theorem dX11_lock_16 : decode cX11_lock 16 = .ok (.putfield 110, 3) := by decide +kernel
theorem dX11_lock_19 : decode cX11_lock 19 = .ok (.aload_n 0, 1) := by decide +kernel
theorem dX11_lock_20 : decode cX11_lock 20 = .ok (.getfield 26, 3) := by decide +kernel
theorem dX11_lock_23 : decode cX11_lock 23 = .ok (.getfield 128, 3) := by decide +kernel
theorem dX11_lock_26 : decode cX11_lock 26 = .ok (.ifCond .eq 9, 3) := by decide +kernel
theorem dX11_lock_29 : decode cX11_lock 29 = .ok (.aload_n 0, 1) := by decide +kernel
theorem dX11_lock_30 : decode cX11_lock 30 = .ok (.iconst 1, 1) := by decide +kernel
theorem dX11_lock_31 : decode cX11_lock 31 = .ok (.invokevirtual 113, 3) := by decide +kernel
theorem dX11_lock_34 : decode cX11_lock 34 = .ok (.ireturn, 1) := by decide +kernel
theorem w_2_206 : (Cond.methodLink RX11 124 yX3_read) ∈ wsL_law := sk_mem (ck_2 _ (List.mem_of_getElem? (i := 206) rfl)) rfl
theorem w_2_207 : (Cond.instanceMethod yX3_read) ∈ wsL_law := sk_mem (ck_2 _ (List.mem_of_getElem? (i := 207) rfl)) rfl
theorem w_2_208 : (Cond.selects RX3 yX3_read yX3_read) ∈ wsL_law := sk_mem (ck_2 _ (List.mem_of_getElem? (i := 208) rfl)) rfl
theorem w_1_68 : (Cond.fieldLink RX11 128 "SameKeeper$Reader" "fault" "I") ∈ wsL_law := sk_mem (ck_1 _ (List.mem_of_getElem? (i := 68) rfl)) rfl
theorem w_2_182 : (Cond.methodLink RX11 113 yX11_refuse) ∈ wsL_law := sk_mem (ck_2 _ (List.mem_of_getElem? (i := 182) rfl)) rfl
theorem w_2_184 : (Cond.instanceMethod yX11_refuse) ∈ wsL_law := sk_mem (ck_2 _ (List.mem_of_getElem? (i := 184) rfl)) rfl
theorem w_0_0 : (Cond.selects RX11 yX11_refuse yX11_refuse) ∈ wsL_law := sk_mem (ck_0 _ (List.mem_of_getElem? (i := 0) rfl)) rfl
theorem w_2_205 : (Cond.code yX11_lock cX11_lock 2 (some .int)) ∈ wsL_law := sk_mem (ck_2 _ (List.mem_of_getElem? (i := 205) rfl)) rfl
set_option maxHeartbeats 4000000 in
set_option maxRecDepth 100000 in
theorem c_x_lock (l : Launch) (D : va_G) (cI cJ cC cZ cS : ClassId) (x0 : Nat) (q : Nat → Nat)  : skM l yX11_lock cX11_lock 2 (some .int) 5 107 0 0 D (skT cI cJ cC cZ cS) [.ref x0] [(x0, .inr (11, [.ref (q 0), .ref (q 1), .ref (q 2), .ref (q 3), .ref (q 4), .ref (q 5), .ref (q 6), .ref (q 7), .ref (q 8), .ref (q 9), .ref (q 10), .ref (q 11), .ref (q 12), .ref (q 13), .ref (q 14), .int 0, .ref (q 16), .long 1])), (q 16, .inl (cI, 6, .inl (fun _ => 0))), (q 3, .inr (3, [.ref (q 2), .ref (q 22), .ref (q 23)])), (q 2, .inr (6, [.ref (q 0), .int 0, .int 0, .int 0, .int (-1), .int 0, .int 0, .int (-1)])), (q 0, .inr (10, [.ref (q 20), .int 0])), (q 6, .inr (2, [.ref (q 24), .ref (q 25), .ref (q 26), .ref (q 27), .ref (q 28), .int 0, .int 0, .int 0, .int 0, .int 0])), (q 24, .inr (0, [.ref (q 29), .ref (q 30), .ref (q 31), .ref (q 32), .int 0, .int 0])), (q 29, .inl (cI, 1600, .inl (fun _ => 0))), (q 25, .inl (cI, 9, .inl (fun _ => 0))), (q 26, .inl (cI, 9, .inl (fun _ => 0))), (q 27, .inl (cI, 3, .inl (fun _ => 0))), (q 28, .inl (cI, 3, .inl (fun _ => 0)))] (skI D (skT cI cJ cC cZ cS) (fun (r : Int32) (u : va_W) => r = -1 ∧ u = [])) := by
  refine skM_of (by decide) (Nat.le_of_ble_eq_true rfl) ?_
  intro p e s m below meth c A ls E hP hD hl
  obtain ⟨hx, hb, hr, hml, hlocks, hin, hown, hts, hK, hA⟩ := E
  have hown : s.vm.findClass RX11 = some m.cls := hown
  have hS : va_S A s.heap s.heap [] := va_S.rf
  have hl : lv_has ls 2 [(0, .ref x0)] := hl
  refine lv_aload_n hx hb dX11_lock_0 rfl (lv_at hl 0 rfl) ?_
  refine sk_get (v := .ref (q 3)) (C := RX11) (T := TX11) (N := 18) hx hb hts inlX11 hown hK hP 0 rfl rfl 3 (by decide) w_2_126 rfl dX11_lock_1 ?_
  refine lv_aload_n hx hb dX11_lock_4 rfl (lv_at hl 0 rfl) ?_
  refine sk_get (v := .ref (q 6)) (C := RX11) (T := TX11) (N := 18) hx hb hts inlX11 hown hK hP 0 rfl rfl 6 (by decide) w_2_129 rfl dX11_lock_5 ?_
  refine sk_Vv (q0 := 0) (n := 1) (rest := []) (wr := [(x0, .inr (11, [.ref (q 0), .ref (q 1), .ref (q 2), .ref (q 3), .ref (q 4), .ref (q 5), .ref (q 6), .ref (q 7), .ref (q 8), .ref (q 9), .ref (q 10), .ref (q 11), .ref (q 12), .ref (q 13), .ref (q 14), .int 0, .ref (q 16), .long 1])), (q 16, .inl (cI, 6, .inl (fun _ => 0)))]) ⟨hx, hb, hml, hown, hts⟩ hl.1 (c_lt_read l D cI cJ cC cZ cS q) w_2_206 w_2_207 w_2_208 w_1_5 w_2_209 (by decide +kernel) ⟨⟨(Nat.le_of_ble_eq_true rfl), (Nat.le_of_ble_eq_true rfl)⟩, (Nat.le_of_ble_eq_true rfl), (Nat.le_of_ble_eq_true rfl)⟩ hK hP hD hS hA [2, 3, 4, 5, 6, 7, 8, 9, 10, 11] [0, 1] rfl rfl (by decide) (by decide) (by decide) rfl rfl rfl rfl (Nat.le_of_ble_eq_true rfl) dX11_lock_8 (fun u H locs hw hP hD hS => ?_)
  obtain rfl := hw
  have hP : va_P D vwCl [(x0, .inr (11, [.ref (q 0), .ref (q 1), .ref (q 2), .ref (q 3), .ref (q 4), .ref (q 5), .ref (q 6), .ref (q 7), .ref (q 8), .ref (q 9), .ref (q 10), .ref (q 11), .ref (q 12), .ref (q 13), .ref (q 14), .int 0, .ref (q 16), .long 1])), (q 16, .inl (cI, 6, .inl (fun _ => 0))), (q 0, .inr (10, [.ref (q 20), .int 0])), (q 2, .inr (6, [.ref (q 0), .int 0, .int 0, .int 0, .int (-2), .int 0, .int 1, .int 0]))] H := hP
  have hD : va_D A [(x0, .inr (11, [.ref (q 0), .ref (q 1), .ref (q 2), .ref (q 3), .ref (q 4), .ref (q 5), .ref (q 6), .ref (q 7), .ref (q 8), .ref (q 9), .ref (q 10), .ref (q 11), .ref (q 12), .ref (q 13), .ref (q 14), .int 0, .ref (q 16), .long 1])), (q 16, .inl (cI, 6, .inl (fun _ => 0))), (q 0, .inr (10, [.ref (q 20), .int 0])), (q 2, .inr (6, [.ref (q 0), .int 0, .int 0, .int 0, .int (-2), .int 0, .int 1, .int 0]))] := hD
  refine W.widen (k := 0) (n := 0) (Nat.le_of_ble_eq_true rfl) (Nat.le_of_ble_eq_true rfl) ?_
  refine lv_aload_n hx hb dX11_lock_11 rfl (lv_at hl 0 rfl) ?_
  refine sk_get (v := .ref (q 0)) (C := RX11) (T := TX11) (N := 18) hx hb hts inlX11 hown hK hP 0 rfl rfl 0 (by decide) w_2_123 rfl dX11_lock_12 ?_
  refine lv_iconst (v := 0) hx hb dX11_lock_15 (by decide) ?_
  refine sk_put (ws' := [(x0, .inr (11, [.ref (q 0), .ref (q 1), .ref (q 2), .ref (q 3), .ref (q 4), .ref (q 5), .ref (q 6), .ref (q 7), .ref (q 8), .ref (q 9), .ref (q 10), .ref (q 11), .ref (q 12), .ref (q 13), .ref (q 14), .int 0, .ref (q 16), .long 1])), (q 16, .inl (cI, 6, .inl (fun _ => 0))), (q 0, .inr (10, [.ref (q 20), .int 0])), (q 2, .inr (6, [.ref (q 0), .int 0, .int 0, .int 0, .int (-2), .int 0, .int 1, .int 0]))]) (C := RX10) (T := TX10) (N := 2) (v := .int 0) hx hb hts inlX10 tyX10 tyX10_ok nmX10 hown hK hP hD hS 2 rfl rfl 1 (by decide) w_1_42 rfl rfl rfl (Nat.le_of_ble_eq_true rfl) rfl dX11_lock_16 (fun H locs hP hD hS => ?_)
  refine lv_aload_n hx hb dX11_lock_19 rfl (lv_at hl 0 rfl) ?_
  refine sk_get (v := .ref (q 2)) (C := RX11) (T := TX11) (N := 18) hx hb hts inlX11 hown hK hP 0 rfl rfl 2 (by decide) w_2_125 rfl dX11_lock_20 ?_
  refine sk_get (v := .int 1) (C := RX6) (T := TX6) (N := 8) hx hb hts inlX6 hown hK hP 3 rfl rfl 6 (by decide) w_1_68 rfl dX11_lock_23 ?_
  refine lv_if_eq (tgt := 35) hx hb dX11_lock_26 (by decide) (fun c => absurd c (by decide)) (fun c_1 => ?_)
  refine lv_aload_n hx hb dX11_lock_29 rfl (lv_at hl 0 rfl) ?_
  refine lv_iconst (v := 1) hx hb dX11_lock_30 (by decide) ?_
  refine sk_Vi (q0 := 0) (n := 1) (rest := []) (wr := [(q 0, .inr (10, [.ref (q 20), .int 0])), (q 2, .inr (6, [.ref (q 0), .int 0, .int 0, .int 0, .int (-2), .int 0, .int 1, .int 0]))]) ⟨hx, hb, hml, hown, hts⟩ hl.1 (c_x_refuse l D cI cJ cC cZ cS x0 q 1 (fun _ => 0) (by unfold vp_in; decide)) w_2_182 w_2_184 w_0_0 w_1_1 w_2_185 (by decide +kernel) ⟨⟨(Nat.le_of_ble_eq_true rfl), (Nat.le_of_ble_eq_true rfl)⟩, (Nat.le_of_ble_eq_true rfl), (Nat.le_of_ble_eq_true rfl)⟩ hK hP hD hS hA [0, 1] [2, 3] rfl rfl (by decide) (by decide) (by decide) rfl rfl rfl rfl (Nat.le_of_ble_eq_true rfl) dX11_lock_31 (fun r_3 u H locs hw hP hD hS => ?_)
  obtain ⟨f2_2, rfl, rfl⟩ := hw
  have hP : va_P D vwCl [(q 0, .inr (10, [.ref (q 20), .int 0])), (q 2, .inr (6, [.ref (q 0), .int 0, .int 0, .int 0, .int (-2), .int 0, .int 1, .int 0])), (x0, .inr (11, [.ref (q 0), .ref (q 1), .ref (q 2), .ref (q 3), .ref (q 4), .ref (q 5), .ref (q 6), .ref (q 7), .ref (q 8), .ref (q 9), .ref (q 10), .ref (q 11), .ref (q 12), .ref (q 13), .ref (q 14), .int 0, .ref (q 16), .long 1])), (q 16, .inl (cI, 6, .inl f2_2))] H := hP
  have hD : va_D A [(q 0, .inr (10, [.ref (q 20), .int 0])), (q 2, .inr (6, [.ref (q 0), .int 0, .int 0, .int 0, .int (-2), .int 0, .int 1, .int 0])), (x0, .inr (11, [.ref (q 0), .ref (q 1), .ref (q 2), .ref (q 3), .ref (q 4), .ref (q 5), .ref (q 6), .ref (q 7), .ref (q 8), .ref (q 9), .ref (q 10), .ref (q 11), .ref (q 12), .ref (q 13), .ref (q 14), .int 0, .ref (q 16), .long 1])), (q 16, .inl (cI, 6, .inl f2_2))] := hD
  refine W.widen (k := 0) (n := 0) (Nat.le_of_ble_eq_true rfl) (Nat.le_of_ble_eq_true rfl) ?_
  have hP := hP.sub (ws' := []) [] rfl
  have hD := hD.sub (ws' := []) [] (by decide) rfl
  exact sk_iret hx hb hr rfl hlocks hK hP hD hS (⟨rfl, rfl⟩) (Nat.le_of_ble_eq_true rfl) (Nat.le_of_ble_eq_true rfl) dX11_lock_34
end
section
theorem dJ6_bitCount_0f7a4_0 : decode cJ6_bitCount_0f7a4 0 = .ok (.iload_n 0, 1) := by decide +kernel
theorem dJ6_bitCount_0f7a4_1 : decode cJ6_bitCount_0f7a4 1 = .ok (.iload_n 0, 1) := by decide +kernel
theorem dJ6_bitCount_0f7a4_2 : decode cJ6_bitCount_0f7a4 2 = .ok (.iconst 1, 1) := by decide +kernel
theorem dJ6_bitCount_0f7a4_3 : decode cJ6_bitCount_0f7a4 3 = .ok (.iushr, 1) := by decide +kernel
theorem dJ6_bitCount_0f7a4_4 : decode cJ6_bitCount_0f7a4 4 = .ok (.ldc_w 265, 3) := by decide +kernel
theorem dJ6_bitCount_0f7a4_7 : decode cJ6_bitCount_0f7a4 7 = .ok (.iand, 1) := by decide +kernel
theorem dJ6_bitCount_0f7a4_8 : decode cJ6_bitCount_0f7a4 8 = .ok (.isub, 1) := by decide +kernel
theorem dJ6_bitCount_0f7a4_9 : decode cJ6_bitCount_0f7a4 9 = .ok (.istore_n 0, 1) := by decide +kernel
theorem dJ6_bitCount_0f7a4_10 : decode cJ6_bitCount_0f7a4 10 = .ok (.iload_n 0, 1) := by decide +kernel
theorem dJ6_bitCount_0f7a4_11 : decode cJ6_bitCount_0f7a4 11 = .ok (.ldc_w 266, 3) := by decide +kernel
theorem dJ6_bitCount_0f7a4_14 : decode cJ6_bitCount_0f7a4 14 = .ok (.iand, 1) := by decide +kernel
theorem dJ6_bitCount_0f7a4_15 : decode cJ6_bitCount_0f7a4 15 = .ok (.iload_n 0, 1) := by decide +kernel
theorem dJ6_bitCount_0f7a4_16 : decode cJ6_bitCount_0f7a4 16 = .ok (.iconst 2, 1) := by decide +kernel
theorem dJ6_bitCount_0f7a4_17 : decode cJ6_bitCount_0f7a4 17 = .ok (.iushr, 1) := by decide +kernel
theorem dJ6_bitCount_0f7a4_18 : decode cJ6_bitCount_0f7a4 18 = .ok (.ldc_w 266, 3) := by decide +kernel
theorem dJ6_bitCount_0f7a4_21 : decode cJ6_bitCount_0f7a4 21 = .ok (.iand, 1) := by decide +kernel
theorem dJ6_bitCount_0f7a4_22 : decode cJ6_bitCount_0f7a4 22 = .ok (.iadd, 1) := by decide +kernel
theorem dJ6_bitCount_0f7a4_23 : decode cJ6_bitCount_0f7a4 23 = .ok (.istore_n 0, 1) := by decide +kernel
theorem dJ6_bitCount_0f7a4_24 : decode cJ6_bitCount_0f7a4 24 = .ok (.iload_n 0, 1) := by decide +kernel
theorem dJ6_bitCount_0f7a4_25 : decode cJ6_bitCount_0f7a4 25 = .ok (.iload_n 0, 1) := by decide +kernel
theorem dJ6_bitCount_0f7a4_26 : decode cJ6_bitCount_0f7a4 26 = .ok (.iconst 4, 1) := by decide +kernel
theorem dJ6_bitCount_0f7a4_27 : decode cJ6_bitCount_0f7a4 27 = .ok (.iushr, 1) := by decide +kernel
theorem dJ6_bitCount_0f7a4_28 : decode cJ6_bitCount_0f7a4 28 = .ok (.iadd, 1) := by decide +kernel
theorem dJ6_bitCount_0f7a4_29 : decode cJ6_bitCount_0f7a4 29 = .ok (.ldc_w 267, 3) := by decide +kernel
theorem dJ6_bitCount_0f7a4_32 : decode cJ6_bitCount_0f7a4 32 = .ok (.iand, 1) := by decide +kernel
theorem dJ6_bitCount_0f7a4_33 : decode cJ6_bitCount_0f7a4 33 = .ok (.istore_n 0, 1) := by decide +kernel
theorem dJ6_bitCount_0f7a4_34 : decode cJ6_bitCount_0f7a4 34 = .ok (.iload_n 0, 1) := by decide +kernel
theorem dJ6_bitCount_0f7a4_35 : decode cJ6_bitCount_0f7a4 35 = .ok (.iload_n 0, 1) := by decide +kernel
theorem dJ6_bitCount_0f7a4_36 : decode cJ6_bitCount_0f7a4 36 = .ok (.bipush 8, 2) := by decide +kernel
theorem dJ6_bitCount_0f7a4_38 : decode cJ6_bitCount_0f7a4 38 = .ok (.iushr, 1) := by decide +kernel
theorem dJ6_bitCount_0f7a4_39 : decode cJ6_bitCount_0f7a4 39 = .ok (.iadd, 1) := by decide +kernel
theorem dJ6_bitCount_0f7a4_40 : decode cJ6_bitCount_0f7a4 40 = .ok (.istore_n 0, 1) := by decide +kernel
theorem dJ6_bitCount_0f7a4_41 : decode cJ6_bitCount_0f7a4 41 = .ok (.iload_n 0, 1) := by decide +kernel
theorem dJ6_bitCount_0f7a4_42 : decode cJ6_bitCount_0f7a4 42 = .ok (.iload_n 0, 1) := by decide +kernel
theorem dJ6_bitCount_0f7a4_43 : decode cJ6_bitCount_0f7a4 43 = .ok (.bipush 16, 2) := by decide +kernel
theorem dJ6_bitCount_0f7a4_45 : decode cJ6_bitCount_0f7a4 45 = .ok (.iushr, 1) := by decide +kernel
theorem dJ6_bitCount_0f7a4_46 : decode cJ6_bitCount_0f7a4 46 = .ok (.iadd, 1) := by decide +kernel
theorem dJ6_bitCount_0f7a4_47 : decode cJ6_bitCount_0f7a4 47 = .ok (.istore_n 0, 1) := by decide +kernel
theorem dJ6_bitCount_0f7a4_48 : decode cJ6_bitCount_0f7a4 48 = .ok (.iload_n 0, 1) := by decide +kernel
theorem dJ6_bitCount_0f7a4_49 : decode cJ6_bitCount_0f7a4 49 = .ok (.bipush 63, 2) := by decide +kernel
theorem dJ6_bitCount_0f7a4_51 : decode cJ6_bitCount_0f7a4 51 = .ok (.iand, 1) := by decide +kernel
theorem dJ6_bitCount_0f7a4_52 : decode cJ6_bitCount_0f7a4 52 = .ok (.ireturn, 1) := by decide +kernel
theorem w_3_176 : (Cond.constant RJ6 265 (1431655765)) ∈ wsL_law := sk_mem (ck_3 _ (List.mem_of_getElem? (i := 176) rfl)) rfl
theorem w_3_177 : (Cond.constant RJ6 266 (858993459)) ∈ wsL_law := sk_mem (ck_3 _ (List.mem_of_getElem? (i := 177) rfl)) rfl
theorem w_3_178 : (Cond.constant RJ6 267 (252645135)) ∈ wsL_law := sk_mem (ck_3 _ (List.mem_of_getElem? (i := 178) rfl)) rfl
theorem w_3_175 : (Cond.code yJ6_bitCount_0f7a4 cJ6_bitCount_0f7a4 1 (some .int)) ∈ wsL_law := sk_mem (ck_3 _ (List.mem_of_getElem? (i := 175) rfl)) rfl
set_option maxHeartbeats 4000000 in
set_option maxRecDepth 100000 in
theorem c_bitCount_0 (l : Launch) (D : va_G) (cI cJ cC cZ cS : ClassId)  : skM l yJ6_bitCount_0f7a4 cJ6_bitCount_0f7a4 1 (some .int) 0 0 0 0 D (skT cI cJ cC cZ cS) [.int 0] [] (skI D (skT cI cJ cC cZ cS) (fun (r : Int32) (u : va_W) => r = 0 ∧ u = [])) := by
  refine skM_of (by decide) (Nat.le_of_ble_eq_true rfl) ?_
  intro p e s m below meth c A ls E hP hD hl
  obtain ⟨hx, hb, hr, hml, hlocks, hin, hown, hts, hK, hA⟩ := E
  have hown : s.vm.findClass RJ6 = some m.cls := hown
  have hS : va_S A s.heap s.heap [] := va_S.rf
  have hl : lv_has ls 1 [(0, .int 0)] := hl
  refine lv_iload_n hx hb dJ6_bitCount_0f7a4_0 rfl (lv_at hl 0 rfl) ?_
  refine lv_iload_n hx hb dJ6_bitCount_0f7a4_1 rfl (lv_at hl 0 rfl) ?_
  refine lv_iconst (v := 1) hx hb dJ6_bitCount_0f7a4_2 (by decide) ?_
  refine lv_iushr hx hb dJ6_bitCount_0f7a4_3 rfl ?_
  refine sk_top 0 (by decide) ?_
  refine lv_ldcw (v := 1431655765) hx hb hown (hts _ w_3_176) dJ6_bitCount_0f7a4_4 ?_
  refine lv_iand hx hb dJ6_bitCount_0f7a4_7 ?_
  refine sk_top 0 (by decide) ?_
  refine lv_isub hx hb dJ6_bitCount_0f7a4_8 ?_
  refine sk_top 0 (by decide) ?_
  refine lv_istore_n (lv' := [(0, .int 0)]) hx hb dJ6_bitCount_0f7a4_9 rfl hl (by decide) rfl (fun ls hl => ?_)
  refine lv_iload_n hx hb dJ6_bitCount_0f7a4_10 rfl (lv_at hl 0 rfl) ?_
  refine lv_ldcw (v := 858993459) hx hb hown (hts _ w_3_177) dJ6_bitCount_0f7a4_11 ?_
  refine lv_iand hx hb dJ6_bitCount_0f7a4_14 ?_
  refine sk_top 0 (by decide) ?_
  refine lv_iload_n hx hb dJ6_bitCount_0f7a4_15 rfl (lv_at hl 0 rfl) ?_
  refine lv_iconst (v := 2) hx hb dJ6_bitCount_0f7a4_16 (by decide) ?_
  refine lv_iushr hx hb dJ6_bitCount_0f7a4_17 rfl ?_
  refine sk_top 0 (by decide) ?_
  refine lv_ldcw (v := 858993459) hx hb hown (hts _ w_3_177) dJ6_bitCount_0f7a4_18 ?_
  refine lv_iand hx hb dJ6_bitCount_0f7a4_21 ?_
  refine sk_top 0 (by decide) ?_
  refine lv_iadd hx hb dJ6_bitCount_0f7a4_22 ?_
  refine sk_top 0 (by decide) ?_
  refine lv_istore_n (lv' := [(0, .int 0)]) hx hb dJ6_bitCount_0f7a4_23 rfl hl (by decide) rfl (fun ls hl => ?_)
  refine lv_iload_n hx hb dJ6_bitCount_0f7a4_24 rfl (lv_at hl 0 rfl) ?_
  refine lv_iload_n hx hb dJ6_bitCount_0f7a4_25 rfl (lv_at hl 0 rfl) ?_
  refine lv_iconst (v := 4) hx hb dJ6_bitCount_0f7a4_26 (by decide) ?_
  refine lv_iushr hx hb dJ6_bitCount_0f7a4_27 rfl ?_
  refine sk_top 0 (by decide) ?_
  refine lv_iadd hx hb dJ6_bitCount_0f7a4_28 ?_
  refine sk_top 0 (by decide) ?_
  refine lv_ldcw (v := 252645135) hx hb hown (hts _ w_3_178) dJ6_bitCount_0f7a4_29 ?_
  refine lv_iand hx hb dJ6_bitCount_0f7a4_32 ?_
  refine sk_top 0 (by decide) ?_
  refine lv_istore_n (lv' := [(0, .int 0)]) hx hb dJ6_bitCount_0f7a4_33 rfl hl (by decide) rfl (fun ls hl => ?_)
  refine lv_iload_n hx hb dJ6_bitCount_0f7a4_34 rfl (lv_at hl 0 rfl) ?_
  refine lv_iload_n hx hb dJ6_bitCount_0f7a4_35 rfl (lv_at hl 0 rfl) ?_
  refine lv_bipush (v := 8) hx hb dJ6_bitCount_0f7a4_36 (by decide) ?_
  refine lv_iushr hx hb dJ6_bitCount_0f7a4_38 rfl ?_
  refine sk_top 0 (by decide) ?_
  refine lv_iadd hx hb dJ6_bitCount_0f7a4_39 ?_
  refine sk_top 0 (by decide) ?_
  refine lv_istore_n (lv' := [(0, .int 0)]) hx hb dJ6_bitCount_0f7a4_40 rfl hl (by decide) rfl (fun ls hl => ?_)
  refine lv_iload_n hx hb dJ6_bitCount_0f7a4_41 rfl (lv_at hl 0 rfl) ?_
  refine lv_iload_n hx hb dJ6_bitCount_0f7a4_42 rfl (lv_at hl 0 rfl) ?_
  refine lv_bipush (v := 16) hx hb dJ6_bitCount_0f7a4_43 (by decide) ?_
  refine lv_iushr hx hb dJ6_bitCount_0f7a4_45 rfl ?_
  refine sk_top 0 (by decide) ?_
  refine lv_iadd hx hb dJ6_bitCount_0f7a4_46 ?_
  refine sk_top 0 (by decide) ?_
  refine lv_istore_n (lv' := [(0, .int 0)]) hx hb dJ6_bitCount_0f7a4_47 rfl hl (by decide) rfl (fun ls hl => ?_)
  refine lv_iload_n hx hb dJ6_bitCount_0f7a4_48 rfl (lv_at hl 0 rfl) ?_
  refine lv_bipush (v := 63) hx hb dJ6_bitCount_0f7a4_49 (by decide) ?_
  refine lv_iand hx hb dJ6_bitCount_0f7a4_51 ?_
  refine sk_top 0 (by decide) ?_
  exact sk_iret hx hb hr rfl hlocks hK hP hD hS (⟨rfl, rfl⟩) (Nat.le_of_ble_eq_true rfl) (Nat.le_of_ble_eq_true rfl) dJ6_bitCount_0f7a4_52
theorem dX4_toldOf_0 : decode cX4_toldOf 0 = .ok (.iload_n 1, 1) := by decide +kernel
theorem dX4_toldOf_1 : decode cX4_toldOf 1 = .ok (.bipush 30, 2) := by decide +kernel
theorem dX4_toldOf_3 : decode cX4_toldOf 3 = .ok (.invokestatic 43, 3) := by decide +kernel
theorem dX4_toldOf_6 : decode cX4_toldOf 6 = .ok (.ireturn, 1) := by decide +kernel
theorem w_3_183 : (Cond.methodLink RX4 43 Lib.Math.min.name) ∈ wsL_law := sk_mem (ck_3 _ (List.mem_of_getElem? (i := 183) rfl)) rfl
theorem w_3_184 : (Cond.static Lib.Math.min.name) ∈ wsL_law := sk_mem (ck_3 _ (List.mem_of_getElem? (i := 184) rfl)) rfl
theorem w_3_185 : (Cond.code Lib.Math.min.name Lib.Math.min.code 2 (some .int)) ∈ wsL_law := sk_mem (ck_3 _ (List.mem_of_getElem? (i := 185) rfl)) rfl
theorem w_3_182 : (Cond.code yX4_toldOf cX4_toldOf 2 (some .int)) ∈ wsL_law := sk_mem (ck_3 _ (List.mem_of_getElem? (i := 182) rfl)) rfl
set_option maxHeartbeats 4000000 in
set_option maxRecDepth 100000 in
theorem c_past_toldOf (l : Launch) (D : va_G) (cI cJ cC cZ cS : ClassId) (q : Nat → Nat)  : skM l yX4_toldOf cX4_toldOf 2 (some .int) 1 21 0 0 D (skT cI cJ cC cZ cS) [.ref (q 9), .int 0] [(q 9, .inr (4, [.ref (q 35), .int 0, .ref (q 36), .ref (q 37), .ref (q 38)]))] (skI D (skT cI cJ cC cZ cS) (fun (r : Int32) (u : va_W) => r = 0 ∧ u = [(q 9, .inr (4, [.ref (q 35), .int 0, .ref (q 36), .ref (q 37), .ref (q 38)]))])) := by
  refine skM_of (by decide) (Nat.le_of_ble_eq_true rfl) ?_
  intro p e s m below meth c A ls E hP hD hl
  obtain ⟨hx, hb, hr, hml, hlocks, hin, hown, hts, hK, hA⟩ := E
  have hown : s.vm.findClass RX4 = some m.cls := hown
  have hS : va_S A s.heap s.heap [] := va_S.rf
  have hl : lv_has ls 2 [(0, .ref (q 9)), (1, .int 0)] := hl
  refine lv_iload_n hx hb dX4_toldOf_0 rfl (lv_at hl 1 rfl) ?_
  refine lv_bipush (v := 30) hx hb dX4_toldOf_1 (by decide) ?_
  refine va_mmin hx hb (by rw [hml]; exact hl.1.symm) hown (hts _ w_3_183) (hts _ w_3_184) (hts _ w_1_3) (hts _ w_3_185) (Nat.le_of_ble_eq_true rfl) (Nat.le_of_ble_eq_true rfl) (Nat.le_of_ble_eq_true rfl) (Nat.le_of_ble_eq_true rfl) dX4_toldOf_3 ?_
  refine sk_top 0 (by decide) ?_
  exact sk_iret hx hb hr rfl hlocks hK hP hD hS (⟨rfl, rfl⟩) (Nat.le_of_ble_eq_true rfl) (Nat.le_of_ble_eq_true rfl) dX4_toldOf_6
theorem dX11_fault_0 : decode cX11_fault 0 = .ok (.iload_n 1, 1) := by decide +kernel
theorem dX11_fault_1 : decode cX11_fault 1 = .ok (.lookupswitch 43 #[(0, 27), (1, 35)], 27) := by decide +kernel
theorem dX11_fault_28 : decode cX11_fault 28 = .ok (.aload_n 0, 1) := by decide +kernel
theorem dX11_fault_29 : decode cX11_fault 29 = .ok (.getfield 26, 3) := by decide +kernel
theorem dX11_fault_32 : decode cX11_fault 32 = .ok (.getfield 128, 3) := by decide +kernel
theorem dX11_fault_35 : decode cX11_fault 35 = .ok (.ireturn, 1) := by decide +kernel
theorem dX11_fault_36 : decode cX11_fault 36 = .ok (.aload_n 0, 1) := by decide +kernel
theorem dX11_fault_37 : decode cX11_fault 37 = .ok (.getfield 26, 3) := by decide +kernel
theorem dX11_fault_40 : decode cX11_fault 40 = .ok (.getfield 141, 3) := by decide +kernel
theorem dX11_fault_43 : decode cX11_fault 43 = .ok (.ireturn, 1) := by decide +kernel
theorem dX11_fault_44 : decode cX11_fault 44 = .ok (.iconst (-1), 1) := by decide +kernel
theorem dX11_fault_45 : decode cX11_fault 45 = .ok (.ireturn, 1) := by decide +kernel
theorem w_1_70 : (Cond.fieldLink RX11 141 "SameKeeper$Reader" "place" "I") ∈ wsL_law := sk_mem (ck_1 _ (List.mem_of_getElem? (i := 70) rfl)) rfl
theorem w_3_168 : (Cond.code yX11_fault cX11_fault 2 (some .int)) ∈ wsL_law := sk_mem (ck_3 _ (List.mem_of_getElem? (i := 168) rfl)) rfl
set_option maxHeartbeats 4000000 in
set_option maxRecDepth 100000 in
theorem c_x_fault (l : Launch) (D : va_G) (cI cJ cC cZ cS : ClassId) (x0 : Nat) (q : Nat → Nat) (w : Int32)  : skM l yX11_fault cX11_fault 2 (some .int) 0 0 0 0 D (skT cI cJ cC cZ cS) [.ref x0, .int w] [(x0, .inr (11, [.ref (q 0), .ref (q 1), .ref (q 2), .ref (q 3), .ref (q 4), .ref (q 5), .ref (q 6), .ref (q 7), .ref (q 8), .ref (q 9), .ref (q 10), .ref (q 11), .ref (q 12), .ref (q 13), .ref (q 14), .int 0, .ref (q 16), .long 1])), (q 2, .inr (6, [.ref (q 0), .int 0, .int 0, .int 0, .int (-1), .int 0, .int 0, .int (-1)]))] (skI D (skT cI cJ cC cZ cS) (fun (r : Int32) (u : va_W) => r = sp_fault w ∧ u = [])) := by
  refine skM_of (by decide) (Nat.le_of_ble_eq_true rfl) ?_
  intro p e s m below meth c A ls E hP hD hl
  obtain ⟨hx, hb, hr, hml, hlocks, hin, hown, hts, hK, hA⟩ := E
  have hown : s.vm.findClass RX11 = some m.cls := hown
  have hS : va_S A s.heap s.heap [] := va_S.rf
  have hl : lv_has ls 2 [(0, .ref x0), (1, .int w)] := hl
  refine lv_iload_n hx hb dX11_fault_0 rfl (lv_at hl 1 rfl) ?_
  by_cases g_1 : w = 0
  · subst g_1
    refine lv_lookup (off := 27) (tgt := 28) hx hb dX11_fault_1 (by decide) (by decide) (by decide) ?_
    refine lv_aload_n hx hb dX11_fault_28 rfl (lv_at hl 0 rfl) ?_
    refine sk_get (v := .ref (q 2)) (C := RX11) (T := TX11) (N := 18) hx hb hts inlX11 hown hK hP 0 rfl rfl 2 (by decide) w_2_125 rfl dX11_fault_29 ?_
    refine sk_get (v := .int 0) (C := RX6) (T := TX6) (N := 8) hx hb hts inlX6 hown hK hP 1 rfl rfl 6 (by decide) w_1_68 rfl dX11_fault_32 ?_
    have hP := hP.sub (ws' := []) [] rfl
    have hD := hD.sub (ws' := []) [] (by decide) rfl
    exact sk_iret hx hb hr rfl hlocks hK hP hD hS (⟨by decide, rfl⟩) (Nat.le_of_ble_eq_true rfl) (Nat.le_of_ble_eq_true rfl) dX11_fault_35
  by_cases g_2 : w = 1
  · subst g_2
    refine lv_lookup (off := 35) (tgt := 36) hx hb dX11_fault_1 (by decide) (by decide) (by decide) ?_
    refine lv_aload_n hx hb dX11_fault_36 rfl (lv_at hl 0 rfl) ?_
    refine sk_get (v := .ref (q 2)) (C := RX11) (T := TX11) (N := 18) hx hb hts inlX11 hown hK hP 0 rfl rfl 2 (by decide) w_2_125 rfl dX11_fault_37 ?_
    refine sk_get (v := .int (-1)) (C := RX6) (T := TX6) (N := 8) hx hb hts inlX6 hown hK hP 1 rfl rfl 7 (by decide) w_1_70 rfl dX11_fault_40 ?_
    have hP := hP.sub (ws' := []) [] rfl
    have hD := hD.sub (ws' := []) [] (by decide) rfl
    exact sk_iret hx hb hr rfl hlocks hK hP hD hS (⟨by decide, rfl⟩) (Nat.le_of_ble_eq_true rfl) (Nat.le_of_ble_eq_true rfl) dX11_fault_43
  refine lv_lookup (off := 43) (tgt := 44) hx hb dX11_fault_1 (by decide) (by rw [lv_osw g_1 (by decide)]; rw [lv_osw g_2 (by decide)]; rfl) (by decide) ?_
  refine lv_iconst (v := (-1)) hx hb dX11_fault_44 (by decide) ?_
  have hP := hP.sub (ws' := []) [] rfl
  have hD := hD.sub (ws' := []) [] (by decide) rfl
  exact sk_iret hx hb hr rfl hlocks hK hP hD hS (⟨by simp only [sp_fault, if_neg g_1], rfl⟩) (Nat.le_of_ble_eq_true rfl) (Nat.le_of_ble_eq_true rfl) dX11_fault_45
theorem dX11_has_0 : decode cX11_has 0 = .ok (.iload_n 1, 1) := by decide +kernel
theorem dX11_has_1 : decode cX11_has 1 = .ok (.tableswitch 106 0 6 #[43, 51, 59, 67, 78, 93, 98], 43) := by decide +kernel
theorem dX11_has_44 : decode cX11_has 44 = .ok (.aload_n 0, 1) := by decide +kernel
theorem dX11_has_45 : decode cX11_has 45 = .ok (.getfield 59, 3) := by decide +kernel
theorem dX11_has_48 : decode cX11_has 48 = .ok (.getfield 144, 3) := by decide +kernel
theorem dX11_has_51 : decode cX11_has 51 = .ok (.ireturn, 1) := by decide +kernel
theorem dX11_has_52 : decode cX11_has 52 = .ok (.aload_n 0, 1) := by decide +kernel
theorem dX11_has_53 : decode cX11_has 53 = .ok (.getfield 59, 3) := by decide +kernel
theorem dX11_has_56 : decode cX11_has 56 = .ok (.getfield 147, 3) := by decide +kernel
theorem dX11_has_59 : decode cX11_has 59 = .ok (.ireturn, 1) := by decide +kernel
theorem dX11_has_60 : decode cX11_has 60 = .ok (.aload_n 0, 1) := by decide +kernel
theorem dX11_has_61 : decode cX11_has 61 = .ok (.getfield 59, 3) := by decide +kernel
theorem dX11_has_64 : decode cX11_has 64 = .ok (.getfield 150, 3) := by decide +kernel
theorem dX11_has_67 : decode cX11_has 67 = .ok (.ireturn, 1) := by decide +kernel
theorem dX11_has_68 : decode cX11_has 68 = .ok (.aload_n 0, 1) := by decide +kernel
theorem dX11_has_69 : decode cX11_has 69 = .ok (.getfield 59, 3) := by decide +kernel
theorem dX11_has_72 : decode cX11_has 72 = .ok (.getfield 153, 3) := by decide +kernel
theorem dX11_has_75 : decode cX11_has 75 = .ok (.invokestatic 156, 3) := by decide +kernel
theorem dX11_has_78 : decode cX11_has 78 = .ok (.ireturn, 1) := by decide +kernel
theorem dX11_has_79 : decode cX11_has 79 = .ok (.aload_n 0, 1) := by decide +kernel
theorem dX11_has_80 : decode cX11_has 80 = .ok (.getfield 69, 3) := by decide +kernel
theorem dX11_has_83 : decode cX11_has 83 = .ok (.aload_n 0, 1) := by decide +kernel
theorem dX11_has_84 : decode cX11_has 84 = .ok (.getfield 59, 3) := by decide +kernel
theorem dX11_has_87 : decode cX11_has 87 = .ok (.getfield 161, 3) := by decide +kernel
theorem dX11_has_90 : decode cX11_has 90 = .ok (.invokevirtual 164, 3) := by decide +kernel
theorem dX11_has_93 : decode cX11_has 93 = .ok (.ireturn, 1) := by decide +kernel
theorem dX11_has_94 : decode cX11_has 94 = .ok (.aload_n 0, 1) := by decide +kernel
theorem dX11_has_95 : decode cX11_has 95 = .ok (.getfield 99, 3) := by decide +kernel
theorem dX11_has_98 : decode cX11_has 98 = .ok (.ireturn, 1) := by decide +kernel
theorem dX11_has_99 : decode cX11_has 99 = .ok (.aload_n 0, 1) := by decide +kernel
theorem dX11_has_100 : decode cX11_has 100 = .ok (.getfield 69, 3) := by decide +kernel
theorem dX11_has_103 : decode cX11_has 103 = .ok (.getfield 167, 3) := by decide +kernel
theorem dX11_has_106 : decode cX11_has 106 = .ok (.ireturn, 1) := by decide +kernel
theorem dX11_has_107 : decode cX11_has 107 = .ok (.iconst (-1), 1) := by decide +kernel
theorem dX11_has_108 : decode cX11_has 108 = .ok (.ireturn, 1) := by decide +kernel
theorem w_2_6 : (Cond.fieldLink RX11 147 "SameKeeper$State" "week" "I") ∈ wsL_law := sk_mem (ck_2 _ (List.mem_of_getElem? (i := 6) rfl)) rfl
theorem w_2_10 : (Cond.fieldLink RX11 150 "SameKeeper$State" "mood" "I") ∈ wsL_law := sk_mem (ck_2 _ (List.mem_of_getElem? (i := 10) rfl)) rfl
theorem w_2_12 : (Cond.fieldLink RX11 153 "SameKeeper$State" "mute" "I") ∈ wsL_law := sk_mem (ck_2 _ (List.mem_of_getElem? (i := 12) rfl)) rfl
theorem w_3_173 : (Cond.methodLink RX11 156 yJ6_bitCount_0f7a4) ∈ wsL_law := sk_mem (ck_3 _ (List.mem_of_getElem? (i := 173) rfl)) rfl
theorem w_3_174 : (Cond.static yJ6_bitCount_0f7a4) ∈ wsL_law := sk_mem (ck_3 _ (List.mem_of_getElem? (i := 174) rfl)) rfl
theorem w_1_21 : (Cond.initialized RJ6) ∈ wsL_law := sk_mem (ck_1 _ (List.mem_of_getElem? (i := 21) rfl)) rfl
theorem w_2_15 : (Cond.fieldLink RX11 161 "SameKeeper$State" "kept" "I") ∈ wsL_law := sk_mem (ck_2 _ (List.mem_of_getElem? (i := 15) rfl)) rfl
theorem w_3_179 : (Cond.methodLink RX11 164 yX4_toldOf) ∈ wsL_law := sk_mem (ck_3 _ (List.mem_of_getElem? (i := 179) rfl)) rfl
theorem w_3_180 : (Cond.instanceMethod yX4_toldOf) ∈ wsL_law := sk_mem (ck_3 _ (List.mem_of_getElem? (i := 180) rfl)) rfl
theorem w_3_181 : (Cond.selects RX4 yX4_toldOf yX4_toldOf) ∈ wsL_law := sk_mem (ck_3 _ (List.mem_of_getElem? (i := 181) rfl)) rfl
theorem w_2_42 : (Cond.fieldLink RX11 167 "SameKeeper$Past" "acts" "I") ∈ wsL_law := sk_mem (ck_2 _ (List.mem_of_getElem? (i := 42) rfl)) rfl
theorem w_3_172 : (Cond.code yX11_has cX11_has 2 (some .int)) ∈ wsL_law := sk_mem (ck_3 _ (List.mem_of_getElem? (i := 172) rfl)) rfl
set_option maxHeartbeats 4000000 in
set_option maxRecDepth 100000 in
theorem c_x_has (l : Launch) (D : va_G) (cI cJ cC cZ cS : ClassId) (x0 : Nat) (q : Nat → Nat) (w : Int32)  : skM l yX11_has cX11_has 2 (some .int) 2 42 0 0 D (skT cI cJ cC cZ cS) [.ref x0, .int w] [(x0, .inr (11, [.ref (q 0), .ref (q 1), .ref (q 2), .ref (q 3), .ref (q 4), .ref (q 5), .ref (q 6), .ref (q 7), .ref (q 8), .ref (q 9), .ref (q 10), .ref (q 11), .ref (q 12), .ref (q 13), .ref (q 14), .int 0, .ref (q 16), .long 1])), (q 7, .inr (7, [.ref (q 33), .ref (q 34), .int 0, .int 0, .int 0, .int 0, .int 0])), (q 9, .inr (4, [.ref (q 35), .int 0, .ref (q 36), .ref (q 37), .ref (q 38)]))] (skI D (skT cI cJ cC cZ cS) (fun (r : Int32) (u : va_W) => r = sp_has w ∧ u = [])) := by
  refine skM_of (by decide) (Nat.le_of_ble_eq_true rfl) ?_
  intro p e s m below meth c A ls E hP hD hl
  obtain ⟨hx, hb, hr, hml, hlocks, hin, hown, hts, hK, hA⟩ := E
  have hown : s.vm.findClass RX11 = some m.cls := hown
  have hS : va_S A s.heap s.heap [] := va_S.rf
  have hl : lv_has ls 2 [(0, .ref x0), (1, .int w)] := hl
  refine lv_iload_n hx hb dX11_has_0 rfl (lv_at hl 1 rfl) ?_
  by_cases g_1 : w = 0
  · subst g_1
    refine lv_tableIn (off := 43) (tgt := 44) hx hb dX11_has_1 (by decide) (by decide) rfl (by decide) ?_
    refine lv_aload_n hx hb dX11_has_44 rfl (lv_at hl 0 rfl) ?_
    refine sk_get (v := .ref (q 7)) (C := RX11) (T := TX11) (N := 18) hx hb hts inlX11 hown hK hP 0 rfl rfl 7 (by decide) w_2_130 rfl dX11_has_45 ?_
    refine sk_get (v := .int 0) (C := RX7) (T := TX7) (N := 7) hx hb hts inlX7 hown hK hP 1 rfl rfl 2 (by decide) w_2_1 rfl dX11_has_48 ?_
    have hP := hP.sub (ws' := []) [] rfl
    have hD := hD.sub (ws' := []) [] (by decide) rfl
    exact sk_iret hx hb hr rfl hlocks hK hP hD hS (⟨by decide, rfl⟩) (Nat.le_of_ble_eq_true rfl) (Nat.le_of_ble_eq_true rfl) dX11_has_51
  by_cases g_2 : w = 1
  · subst g_2
    refine lv_tableIn (off := 51) (tgt := 52) hx hb dX11_has_1 (by decide) (by decide) rfl (by decide) ?_
    refine lv_aload_n hx hb dX11_has_52 rfl (lv_at hl 0 rfl) ?_
    refine sk_get (v := .ref (q 7)) (C := RX11) (T := TX11) (N := 18) hx hb hts inlX11 hown hK hP 0 rfl rfl 7 (by decide) w_2_130 rfl dX11_has_53 ?_
    refine sk_get (v := .int 0) (C := RX7) (T := TX7) (N := 7) hx hb hts inlX7 hown hK hP 1 rfl rfl 3 (by decide) w_2_6 rfl dX11_has_56 ?_
    have hP := hP.sub (ws' := []) [] rfl
    have hD := hD.sub (ws' := []) [] (by decide) rfl
    exact sk_iret hx hb hr rfl hlocks hK hP hD hS (⟨by decide, rfl⟩) (Nat.le_of_ble_eq_true rfl) (Nat.le_of_ble_eq_true rfl) dX11_has_59
  by_cases g_3 : w = 2
  · subst g_3
    refine lv_tableIn (off := 59) (tgt := 60) hx hb dX11_has_1 (by decide) (by decide) rfl (by decide) ?_
    refine lv_aload_n hx hb dX11_has_60 rfl (lv_at hl 0 rfl) ?_
    refine sk_get (v := .ref (q 7)) (C := RX11) (T := TX11) (N := 18) hx hb hts inlX11 hown hK hP 0 rfl rfl 7 (by decide) w_2_130 rfl dX11_has_61 ?_
    refine sk_get (v := .int 0) (C := RX7) (T := TX7) (N := 7) hx hb hts inlX7 hown hK hP 1 rfl rfl 4 (by decide) w_2_10 rfl dX11_has_64 ?_
    have hP := hP.sub (ws' := []) [] rfl
    have hD := hD.sub (ws' := []) [] (by decide) rfl
    exact sk_iret hx hb hr rfl hlocks hK hP hD hS (⟨by decide, rfl⟩) (Nat.le_of_ble_eq_true rfl) (Nat.le_of_ble_eq_true rfl) dX11_has_67
  by_cases g_4 : w = 3
  · subst g_4
    refine lv_tableIn (off := 67) (tgt := 68) hx hb dX11_has_1 (by decide) (by decide) rfl (by decide) ?_
    refine lv_aload_n hx hb dX11_has_68 rfl (lv_at hl 0 rfl) ?_
    refine sk_get (v := .ref (q 7)) (C := RX11) (T := TX11) (N := 18) hx hb hts inlX11 hown hK hP 0 rfl rfl 7 (by decide) w_2_130 rfl dX11_has_69 ?_
    refine sk_get (v := .int 0) (C := RX7) (T := TX7) (N := 7) hx hb hts inlX7 hown hK hP 1 rfl rfl 5 (by decide) w_2_12 rfl dX11_has_72 ?_
    refine sk_Si (n := 1) (rest := []) (wr := [(x0, .inr (11, [.ref (q 0), .ref (q 1), .ref (q 2), .ref (q 3), .ref (q 4), .ref (q 5), .ref (q 6), .ref (q 7), .ref (q 8), .ref (q 9), .ref (q 10), .ref (q 11), .ref (q 12), .ref (q 13), .ref (q 14), .int 0, .ref (q 16), .long 1])), (q 7, .inr (7, [.ref (q 33), .ref (q 34), .int 0, .int 0, .int 0, .int 0, .int 0])), (q 9, .inr (4, [.ref (q 35), .int 0, .ref (q 36), .ref (q 37), .ref (q 38)]))]) ⟨hx, hb, hml, hown, hts⟩ hl.1 (c_bitCount_0 l D cI cJ cC cZ cS) w_3_173 w_3_174 w_1_21 w_3_175 (by decide +kernel) ⟨⟨(Nat.le_of_ble_eq_true rfl), (Nat.le_of_ble_eq_true rfl)⟩, (Nat.le_of_ble_eq_true rfl), (Nat.le_of_ble_eq_true rfl)⟩ hK hP hD hS hA [] [0, 1, 2] rfl rfl (by decide) (by decide) (by decide) rfl rfl (Nat.le_of_ble_eq_true rfl) dX11_has_75 (fun r_5 u H locs hw hP hD hS => ?_)
    obtain ⟨rfl, rfl⟩ := hw
    have hP : va_P D vwCl [(x0, .inr (11, [.ref (q 0), .ref (q 1), .ref (q 2), .ref (q 3), .ref (q 4), .ref (q 5), .ref (q 6), .ref (q 7), .ref (q 8), .ref (q 9), .ref (q 10), .ref (q 11), .ref (q 12), .ref (q 13), .ref (q 14), .int 0, .ref (q 16), .long 1])), (q 7, .inr (7, [.ref (q 33), .ref (q 34), .int 0, .int 0, .int 0, .int 0, .int 0])), (q 9, .inr (4, [.ref (q 35), .int 0, .ref (q 36), .ref (q 37), .ref (q 38)]))] H := hP
    have hD : va_D A [(x0, .inr (11, [.ref (q 0), .ref (q 1), .ref (q 2), .ref (q 3), .ref (q 4), .ref (q 5), .ref (q 6), .ref (q 7), .ref (q 8), .ref (q 9), .ref (q 10), .ref (q 11), .ref (q 12), .ref (q 13), .ref (q 14), .int 0, .ref (q 16), .long 1])), (q 7, .inr (7, [.ref (q 33), .ref (q 34), .int 0, .int 0, .int 0, .int 0, .int 0])), (q 9, .inr (4, [.ref (q 35), .int 0, .ref (q 36), .ref (q 37), .ref (q 38)]))] := hD
    refine W.widen (k := 0) (n := 0) (Nat.le_of_ble_eq_true rfl) (Nat.le_of_ble_eq_true rfl) ?_
    have hP := hP.sub (ws' := []) [] rfl
    have hD := hD.sub (ws' := []) [] (by decide) rfl
    exact sk_iret hx hb hr rfl hlocks hK hP hD hS (⟨by decide, rfl⟩) (Nat.le_of_ble_eq_true rfl) (Nat.le_of_ble_eq_true rfl) dX11_has_78
  by_cases g_6 : w = 4
  · subst g_6
    refine lv_tableIn (off := 78) (tgt := 79) hx hb dX11_has_1 (by decide) (by decide) rfl (by decide) ?_
    refine lv_aload_n hx hb dX11_has_79 rfl (lv_at hl 0 rfl) ?_
    refine sk_get (v := .ref (q 9)) (C := RX11) (T := TX11) (N := 18) hx hb hts inlX11 hown hK hP 0 rfl rfl 9 (by decide) w_2_132 rfl dX11_has_80 ?_
    refine lv_aload_n hx hb dX11_has_83 rfl (lv_at hl 0 rfl) ?_
    refine sk_get (v := .ref (q 7)) (C := RX11) (T := TX11) (N := 18) hx hb hts inlX11 hown hK hP 0 rfl rfl 7 (by decide) w_2_130 rfl dX11_has_84 ?_
    refine sk_get (v := .int 0) (C := RX7) (T := TX7) (N := 7) hx hb hts inlX7 hown hK hP 1 rfl rfl 6 (by decide) w_2_15 rfl dX11_has_87 ?_
    refine sk_Vi (q0 := 0) (n := 1) (rest := []) (wr := [(x0, .inr (11, [.ref (q 0), .ref (q 1), .ref (q 2), .ref (q 3), .ref (q 4), .ref (q 5), .ref (q 6), .ref (q 7), .ref (q 8), .ref (q 9), .ref (q 10), .ref (q 11), .ref (q 12), .ref (q 13), .ref (q 14), .int 0, .ref (q 16), .long 1])), (q 7, .inr (7, [.ref (q 33), .ref (q 34), .int 0, .int 0, .int 0, .int 0, .int 0]))]) ⟨hx, hb, hml, hown, hts⟩ hl.1 (c_past_toldOf l D cI cJ cC cZ cS q) w_3_179 w_3_180 w_3_181 w_1_11 w_3_182 (by decide +kernel) ⟨⟨(Nat.le_of_ble_eq_true rfl), (Nat.le_of_ble_eq_true rfl)⟩, (Nat.le_of_ble_eq_true rfl), (Nat.le_of_ble_eq_true rfl)⟩ hK hP hD hS hA [2] [0, 1] rfl rfl (by decide) (by decide) (by decide) rfl rfl rfl rfl (Nat.le_of_ble_eq_true rfl) dX11_has_90 (fun r_7 u H locs hw hP hD hS => ?_)
    obtain ⟨rfl, rfl⟩ := hw
    have hP : va_P D vwCl [(x0, .inr (11, [.ref (q 0), .ref (q 1), .ref (q 2), .ref (q 3), .ref (q 4), .ref (q 5), .ref (q 6), .ref (q 7), .ref (q 8), .ref (q 9), .ref (q 10), .ref (q 11), .ref (q 12), .ref (q 13), .ref (q 14), .int 0, .ref (q 16), .long 1])), (q 7, .inr (7, [.ref (q 33), .ref (q 34), .int 0, .int 0, .int 0, .int 0, .int 0])), (q 9, .inr (4, [.ref (q 35), .int 0, .ref (q 36), .ref (q 37), .ref (q 38)]))] H := hP
    have hD : va_D A [(x0, .inr (11, [.ref (q 0), .ref (q 1), .ref (q 2), .ref (q 3), .ref (q 4), .ref (q 5), .ref (q 6), .ref (q 7), .ref (q 8), .ref (q 9), .ref (q 10), .ref (q 11), .ref (q 12), .ref (q 13), .ref (q 14), .int 0, .ref (q 16), .long 1])), (q 7, .inr (7, [.ref (q 33), .ref (q 34), .int 0, .int 0, .int 0, .int 0, .int 0])), (q 9, .inr (4, [.ref (q 35), .int 0, .ref (q 36), .ref (q 37), .ref (q 38)]))] := hD
    refine W.widen (k := 0) (n := 0) (Nat.le_of_ble_eq_true rfl) (Nat.le_of_ble_eq_true rfl) ?_
    have hP := hP.sub (ws' := []) [] rfl
    have hD := hD.sub (ws' := []) [] (by decide) rfl
    exact sk_iret hx hb hr rfl hlocks hK hP hD hS (⟨by decide, rfl⟩) (Nat.le_of_ble_eq_true rfl) (Nat.le_of_ble_eq_true rfl) dX11_has_93
  by_cases g_8 : w = 5
  · subst g_8
    refine lv_tableIn (off := 93) (tgt := 94) hx hb dX11_has_1 (by decide) (by decide) rfl (by decide) ?_
    refine lv_aload_n hx hb dX11_has_94 rfl (lv_at hl 0 rfl) ?_
    refine sk_get (v := .int 0) (C := RX11) (T := TX11) (N := 18) hx hb hts inlX11 hown hK hP 0 rfl rfl 15 (by decide) w_2_138 rfl dX11_has_95 ?_
    have hP := hP.sub (ws' := []) [] rfl
    have hD := hD.sub (ws' := []) [] (by decide) rfl
    exact sk_iret hx hb hr rfl hlocks hK hP hD hS (⟨by decide, rfl⟩) (Nat.le_of_ble_eq_true rfl) (Nat.le_of_ble_eq_true rfl) dX11_has_98
  by_cases g_9 : w = 6
  · subst g_9
    refine lv_tableIn (off := 98) (tgt := 99) hx hb dX11_has_1 (by decide) (by decide) rfl (by decide) ?_
    refine lv_aload_n hx hb dX11_has_99 rfl (lv_at hl 0 rfl) ?_
    refine sk_get (v := .ref (q 9)) (C := RX11) (T := TX11) (N := 18) hx hb hts inlX11 hown hK hP 0 rfl rfl 9 (by decide) w_2_132 rfl dX11_has_100 ?_
    refine sk_get (v := .int 0) (C := RX4) (T := TX4) (N := 5) hx hb hts inlX4 hown hK hP 2 rfl rfl 1 (by decide) w_2_42 rfl dX11_has_103 ?_
    have hP := hP.sub (ws' := []) [] rfl
    have hD := hD.sub (ws' := []) [] (by decide) rfl
    exact sk_iret hx hb hr rfl hlocks hK hP hD hS (⟨by decide, rfl⟩) (Nat.le_of_ble_eq_true rfl) (Nat.le_of_ble_eq_true rfl) dX11_has_106
  refine lv_tableOut (tgt := 107) hx hb dX11_has_1 (sk_out (n := 6) (by intro k hk; rcases (show k = 0 ∨ k = 1 ∨ k = 2 ∨ k = 3 ∨ k = 4 ∨ k = 5 ∨ k = 6 by omega) with rfl | rfl | rfl | rfl | rfl | rfl | rfl <;> assumption)) (by decide) ?_
  refine lv_iconst (v := (-1)) hx hb dX11_has_107 (by decide) ?_
  have hP := hP.sub (ws' := []) [] rfl
  have hD := hD.sub (ws' := []) [] (by decide) rfl
  exact sk_iret hx hb hr rfl hlocks hK hP hD hS (⟨by simp only [sp_has, if_neg g_1, if_neg g_2, if_neg g_3, if_neg g_4, if_neg g_6, if_neg g_8, if_neg g_9], rfl⟩) (Nat.le_of_ble_eq_true rfl) (Nat.le_of_ble_eq_true rfl) dX11_has_108
theorem dX11_day_0 : decode cX11_day 0 = .ok (.aload_n 0, 1) := by decide +kernel
theorem dX11_day_1 : decode cX11_day 1 = .ok (.iload_n 1, 1) := by decide +kernel
theorem dX11_day_2 : decode cX11_day 2 = .ok (.invokevirtual 170, 3) := by decide +kernel
theorem dX11_day_5 : decode cX11_day 5 = .ok (.ifCond .ne 5, 3) := by decide +kernel
theorem dX11_day_8 : decode cX11_day 8 = .ok (.iconst (-1), 1) := by decide +kernel
theorem dX11_day_9 : decode cX11_day 9 = .ok (.ireturn, 1) := by decide +kernel
theorem w_3_190 : (Cond.methodLink RX11 170 yX11_isDay) ∈ wsL_law := sk_mem (ck_3 _ (List.mem_of_getElem? (i := 190) rfl)) rfl
theorem w_3_192 : (Cond.instanceMethod yX11_isDay) ∈ wsL_law := sk_mem (ck_3 _ (List.mem_of_getElem? (i := 192) rfl)) rfl
theorem w_0_14 : (Cond.selects RX11 yX11_isDay yX11_isDay) ∈ wsL_law := sk_mem (ck_0 _ (List.mem_of_getElem? (i := 14) rfl)) rfl
theorem w_3_189 : (Cond.code yX11_day cX11_day 3 (some .int)) ∈ wsL_law := sk_mem (ck_3 _ (List.mem_of_getElem? (i := 189) rfl)) rfl
set_option maxHeartbeats 4000000 in
set_option maxRecDepth 100000 in
theorem c_x_day (l : Launch) (D : va_G) (cI cJ cC cZ cS : ClassId) (x0 : Nat) (q : Nat → Nat) (d : Int32) (w : Int32)  : skM l yX11_day cX11_day 3 (some .int) 1 21 0 0 D (skT cI cJ cC cZ cS) [.ref x0, .int d, .int w] [(x0, .inr (11, [.ref (q 0), .ref (q 1), .ref (q 2), .ref (q 3), .ref (q 4), .ref (q 5), .ref (q 6), .ref (q 7), .ref (q 8), .ref (q 9), .ref (q 10), .ref (q 11), .ref (q 12), .ref (q 13), .ref (q 14), .int 0, .ref (q 16), .long 1])), (q 7, .inr (7, [.ref (q 33), .ref (q 34), .int 0, .int 0, .int 0, .int 0, .int 0]))] (skI D (skT cI cJ cC cZ cS) (fun (r : Int32) (u : va_W) => r = -1 ∧ u = [])) := by
  refine skM_of (by decide) (Nat.le_of_ble_eq_true rfl) ?_
  intro p e s m below meth c A ls E hP hD hl
  obtain ⟨hx, hb, hr, hml, hlocks, hin, hown, hts, hK, hA⟩ := E
  have hown : s.vm.findClass RX11 = some m.cls := hown
  have hS : va_S A s.heap s.heap [] := va_S.rf
  have hl : lv_has ls 3 [(0, .ref x0), (1, .int d), (2, .int w)] := hl
  refine lv_aload_n hx hb dX11_day_0 rfl (lv_at hl 0 rfl) ?_
  refine lv_iload_n hx hb dX11_day_1 rfl (lv_at hl 1 rfl) ?_
  refine sk_Vi (q0 := 0) (n := 1) (rest := []) (wr := []) ⟨hx, hb, hml, hown, hts⟩ hl.1 (c_x_isDay l D cI cJ cC cZ cS x0 q d) w_3_190 w_3_192 w_0_14 w_1_1 w_3_193 (by decide +kernel) ⟨⟨(Nat.le_of_ble_eq_true rfl), (Nat.le_of_ble_eq_true rfl)⟩, (Nat.le_of_ble_eq_true rfl), (Nat.le_of_ble_eq_true rfl)⟩ hK hP hD hS hA [0, 1] [] rfl rfl (by decide) (by decide) (by decide) rfl rfl rfl rfl (Nat.le_of_ble_eq_true rfl) dX11_day_2 (fun r_1 u H locs hw hP hD hS => ?_)
  obtain ⟨rfl, rfl⟩ := hw
  have hP : va_P D vwCl [(x0, .inr (11, [.ref (q 0), .ref (q 1), .ref (q 2), .ref (q 3), .ref (q 4), .ref (q 5), .ref (q 6), .ref (q 7), .ref (q 8), .ref (q 9), .ref (q 10), .ref (q 11), .ref (q 12), .ref (q 13), .ref (q 14), .int 0, .ref (q 16), .long 1])), (q 7, .inr (7, [.ref (q 33), .ref (q 34), .int 0, .int 0, .int 0, .int 0, .int 0]))] H := hP
  have hD : va_D A [(x0, .inr (11, [.ref (q 0), .ref (q 1), .ref (q 2), .ref (q 3), .ref (q 4), .ref (q 5), .ref (q 6), .ref (q 7), .ref (q 8), .ref (q 9), .ref (q 10), .ref (q 11), .ref (q 12), .ref (q 13), .ref (q 14), .int 0, .ref (q 16), .long 1])), (q 7, .inr (7, [.ref (q 33), .ref (q 34), .int 0, .int 0, .int 0, .int 0, .int 0]))] := hD
  refine W.widen (k := 0) (n := 0) (Nat.le_of_ble_eq_true rfl) (Nat.le_of_ble_eq_true rfl) ?_
  refine lv_if_ne (tgt := 10) hx hb dX11_day_5 (by decide) (fun c => absurd c (by decide)) (fun c_2 => ?_)
  refine lv_iconst (v := (-1)) hx hb dX11_day_8 (by decide) ?_
  have hP := hP.sub (ws' := []) [] rfl
  have hD := hD.sub (ws' := []) [] (by decide) rfl
  exact sk_iret hx hb hr rfl hlocks hK hP hD hS (⟨rfl, rfl⟩) (Nat.le_of_ble_eq_true rfl) (Nat.le_of_ble_eq_true rfl) dX11_day_9
theorem dX11_told_0 : decode cX11_told 0 = .ok (.aload_n 0, 1) := by decide +kernel
theorem dX11_told_1 : decode cX11_told 1 = .ok (.iload_n 1, 1) := by decide +kernel
theorem dX11_told_2 : decode cX11_told 2 = .ok (.invokevirtual 170, 3) := by decide +kernel
theorem dX11_told_5 : decode cX11_told 5 = .ok (.ifCond .eq 21, 3) := by decide +kernel
theorem dX11_told_26 : decode cX11_told 26 = .ok (.iconst (-1), 1) := by decide +kernel
theorem dX11_told_27 : decode cX11_told 27 = .ok (.ireturn, 1) := by decide +kernel
theorem w_3_201 : (Cond.code yX11_told cX11_told 3 (some .int)) ∈ wsL_law := sk_mem (ck_3 _ (List.mem_of_getElem? (i := 201) rfl)) rfl
set_option maxHeartbeats 4000000 in
set_option maxRecDepth 100000 in
theorem c_x_told (l : Launch) (D : va_G) (cI cJ cC cZ cS : ClassId) (x0 : Nat) (q : Nat → Nat) (d : Int32) (o : Int32)  : skM l yX11_told cX11_told 3 (some .int) 1 21 0 0 D (skT cI cJ cC cZ cS) [.ref x0, .int d, .int o] [(x0, .inr (11, [.ref (q 0), .ref (q 1), .ref (q 2), .ref (q 3), .ref (q 4), .ref (q 5), .ref (q 6), .ref (q 7), .ref (q 8), .ref (q 9), .ref (q 10), .ref (q 11), .ref (q 12), .ref (q 13), .ref (q 14), .int 0, .ref (q 16), .long 1])), (q 7, .inr (7, [.ref (q 33), .ref (q 34), .int 0, .int 0, .int 0, .int 0, .int 0]))] (skI D (skT cI cJ cC cZ cS) (fun (r : Int32) (u : va_W) => r = -1 ∧ u = [])) := by
  refine skM_of (by decide) (Nat.le_of_ble_eq_true rfl) ?_
  intro p e s m below meth c A ls E hP hD hl
  obtain ⟨hx, hb, hr, hml, hlocks, hin, hown, hts, hK, hA⟩ := E
  have hown : s.vm.findClass RX11 = some m.cls := hown
  have hS : va_S A s.heap s.heap [] := va_S.rf
  have hl : lv_has ls 3 [(0, .ref x0), (1, .int d), (2, .int o)] := hl
  refine lv_aload_n hx hb dX11_told_0 rfl (lv_at hl 0 rfl) ?_
  refine lv_iload_n hx hb dX11_told_1 rfl (lv_at hl 1 rfl) ?_
  refine sk_Vi (q0 := 0) (n := 1) (rest := []) (wr := []) ⟨hx, hb, hml, hown, hts⟩ hl.1 (c_x_isDay l D cI cJ cC cZ cS x0 q d) w_3_190 w_3_192 w_0_14 w_1_1 w_3_193 (by decide +kernel) ⟨⟨(Nat.le_of_ble_eq_true rfl), (Nat.le_of_ble_eq_true rfl)⟩, (Nat.le_of_ble_eq_true rfl), (Nat.le_of_ble_eq_true rfl)⟩ hK hP hD hS hA [0, 1] [] rfl rfl (by decide) (by decide) (by decide) rfl rfl rfl rfl (Nat.le_of_ble_eq_true rfl) dX11_told_2 (fun r_1 u H locs hw hP hD hS => ?_)
  obtain ⟨rfl, rfl⟩ := hw
  have hP : va_P D vwCl [(x0, .inr (11, [.ref (q 0), .ref (q 1), .ref (q 2), .ref (q 3), .ref (q 4), .ref (q 5), .ref (q 6), .ref (q 7), .ref (q 8), .ref (q 9), .ref (q 10), .ref (q 11), .ref (q 12), .ref (q 13), .ref (q 14), .int 0, .ref (q 16), .long 1])), (q 7, .inr (7, [.ref (q 33), .ref (q 34), .int 0, .int 0, .int 0, .int 0, .int 0]))] H := hP
  have hD : va_D A [(x0, .inr (11, [.ref (q 0), .ref (q 1), .ref (q 2), .ref (q 3), .ref (q 4), .ref (q 5), .ref (q 6), .ref (q 7), .ref (q 8), .ref (q 9), .ref (q 10), .ref (q 11), .ref (q 12), .ref (q 13), .ref (q 14), .int 0, .ref (q 16), .long 1])), (q 7, .inr (7, [.ref (q 33), .ref (q 34), .int 0, .int 0, .int 0, .int 0, .int 0]))] := hD
  refine W.widen (k := 0) (n := 0) (Nat.le_of_ble_eq_true rfl) (Nat.le_of_ble_eq_true rfl) ?_
  refine lv_if_eq (tgt := 26) hx hb dX11_told_5 (by decide) (fun c_2 => ?_) (fun c => absurd c (by decide))
  refine lv_iconst (v := (-1)) hx hb dX11_told_26 (by decide) ?_
  have hP := hP.sub (ws' := []) [] rfl
  have hD := hD.sub (ws' := []) [] (by decide) rfl
  exact sk_iret hx hb hr rfl hlocks hK hP hD hS (⟨rfl, rfl⟩) (Nat.le_of_ble_eq_true rfl) (Nat.le_of_ble_eq_true rfl) dX11_told_27
theorem dX11_does_0 : decode cX11_does 0 = .ok (.aload_n 0, 1) := by decide +kernel
theorem dX11_does_1 : decode cX11_does 1 = .ok (.iload_n 1, 1) := by decide +kernel
theorem dX11_does_2 : decode cX11_does 2 = .ok (.invokevirtual 170, 3) := by decide +kernel
theorem dX11_does_5 : decode cX11_does 5 = .ok (.ifCond .eq 10, 3) := by decide +kernel
theorem dX11_does_15 : decode cX11_does 15 = .ok (.iconst (-1), 1) := by decide +kernel
theorem dX11_does_16 : decode cX11_does 16 = .ok (.ireturn, 1) := by decide +kernel
theorem w_4_24 : (Cond.code yX11_does cX11_does 5 (some .int)) ∈ wsL_law := sk_mem (ck_4 _ (List.mem_of_getElem? (i := 24) rfl)) rfl
set_option maxHeartbeats 4000000 in
set_option maxRecDepth 100000 in
theorem c_x_does (l : Launch) (D : va_G) (cI cJ cC cZ cS : ClassId) (x0 : Nat) (q : Nat → Nat) (d : Int32) (o : Int32) (w : Int32)  : skM l yX11_does cX11_does 5 (some .int) 1 21 0 0 D (skT cI cJ cC cZ cS) [.ref x0, .int d, .int o, .int w] [(x0, .inr (11, [.ref (q 0), .ref (q 1), .ref (q 2), .ref (q 3), .ref (q 4), .ref (q 5), .ref (q 6), .ref (q 7), .ref (q 8), .ref (q 9), .ref (q 10), .ref (q 11), .ref (q 12), .ref (q 13), .ref (q 14), .int 0, .ref (q 16), .long 1])), (q 7, .inr (7, [.ref (q 33), .ref (q 34), .int 0, .int 0, .int 0, .int 0, .int 0]))] (skI D (skT cI cJ cC cZ cS) (fun (r : Int32) (u : va_W) => r = -1 ∧ u = [])) := by
  refine skM_of (by decide) (Nat.le_of_ble_eq_true rfl) ?_
  intro p e s m below meth c A ls E hP hD hl
  obtain ⟨hx, hb, hr, hml, hlocks, hin, hown, hts, hK, hA⟩ := E
  have hown : s.vm.findClass RX11 = some m.cls := hown
  have hS : va_S A s.heap s.heap [] := va_S.rf
  have hl : lv_has ls 5 [(0, .ref x0), (1, .int d), (2, .int o), (3, .int w)] := hl
  refine lv_aload_n hx hb dX11_does_0 rfl (lv_at hl 0 rfl) ?_
  refine lv_iload_n hx hb dX11_does_1 rfl (lv_at hl 1 rfl) ?_
  refine sk_Vi (q0 := 0) (n := 1) (rest := []) (wr := []) ⟨hx, hb, hml, hown, hts⟩ hl.1 (c_x_isDay l D cI cJ cC cZ cS x0 q d) w_3_190 w_3_192 w_0_14 w_1_1 w_3_193 (by decide +kernel) ⟨⟨(Nat.le_of_ble_eq_true rfl), (Nat.le_of_ble_eq_true rfl)⟩, (Nat.le_of_ble_eq_true rfl), (Nat.le_of_ble_eq_true rfl)⟩ hK hP hD hS hA [0, 1] [] rfl rfl (by decide) (by decide) (by decide) rfl rfl rfl rfl (Nat.le_of_ble_eq_true rfl) dX11_does_2 (fun r_1 u H locs hw hP hD hS => ?_)
  obtain ⟨rfl, rfl⟩ := hw
  have hP : va_P D vwCl [(x0, .inr (11, [.ref (q 0), .ref (q 1), .ref (q 2), .ref (q 3), .ref (q 4), .ref (q 5), .ref (q 6), .ref (q 7), .ref (q 8), .ref (q 9), .ref (q 10), .ref (q 11), .ref (q 12), .ref (q 13), .ref (q 14), .int 0, .ref (q 16), .long 1])), (q 7, .inr (7, [.ref (q 33), .ref (q 34), .int 0, .int 0, .int 0, .int 0, .int 0]))] H := hP
  have hD : va_D A [(x0, .inr (11, [.ref (q 0), .ref (q 1), .ref (q 2), .ref (q 3), .ref (q 4), .ref (q 5), .ref (q 6), .ref (q 7), .ref (q 8), .ref (q 9), .ref (q 10), .ref (q 11), .ref (q 12), .ref (q 13), .ref (q 14), .int 0, .ref (q 16), .long 1])), (q 7, .inr (7, [.ref (q 33), .ref (q 34), .int 0, .int 0, .int 0, .int 0, .int 0]))] := hD
  refine W.widen (k := 0) (n := 0) (Nat.le_of_ble_eq_true rfl) (Nat.le_of_ble_eq_true rfl) ?_
  refine lv_if_eq (tgt := 15) hx hb dX11_does_5 (by decide) (fun c_2 => ?_) (fun c => absurd c (by decide))
  refine lv_iconst (v := (-1)) hx hb dX11_does_15 (by decide) ?_
  have hP := hP.sub (ws' := []) [] rfl
  have hD := hD.sub (ws' := []) [] (by decide) rfl
  exact sk_iret hx hb hr rfl hlocks hK hP hD hS (⟨rfl, rfl⟩) (Nat.le_of_ble_eq_true rfl) (Nat.le_of_ble_eq_true rfl) dX11_does_16
theorem dX11_kept_0 : decode cX11_kept 0 = .ok (.aload_n 0, 1) := by decide +kernel
theorem dX11_kept_1 : decode cX11_kept 1 = .ok (.getfield 69, 3) := by decide +kernel
theorem dX11_kept_4 : decode cX11_kept 4 = .ok (.aload_n 0, 1) := by decide +kernel
theorem dX11_kept_5 : decode cX11_kept 5 = .ok (.getfield 59, 3) := by decide +kernel
theorem dX11_kept_8 : decode cX11_kept 8 = .ok (.getfield 161, 3) := by decide +kernel
theorem dX11_kept_11 : decode cX11_kept 11 = .ok (.invokevirtual 164, 3) := by decide +kernel
theorem dX11_kept_14 : decode cX11_kept 14 = .ok (.istore_n 3, 1) := by decide +kernel
theorem dX11_kept_15 : decode cX11_kept 15 = .ok (.iload_n 1, 1) := by decide +kernel
theorem dX11_kept_16 : decode cX11_kept 16 = .ok (.ifCond .lt 8, 3) := by decide +kernel
theorem dX11_kept_24 : decode cX11_kept 24 = .ok (.ldc2_w 198, 3) := by decide +kernel
theorem dX11_kept_27 : decode cX11_kept 27 = .ok (.lreturn, 1) := by decide +kernel
theorem dX11_kept_19 : decode cX11_kept 19 = .ok (.iload_n 1, 1) := by decide +kernel
theorem dX11_kept_20 : decode cX11_kept 20 = .ok (.iload_n 3, 1) := by decide +kernel
theorem dX11_kept_21 : decode cX11_kept 21 = .ok (.if_icmp .lt 7, 3) := by decide +kernel
theorem w_4_29 : (Cond.constantLong RX11 198 (-1000000000000000)) ∈ wsL_law := sk_mem (ck_4 _ (List.mem_of_getElem? (i := 29) rfl)) rfl
theorem w_4_28 : (Cond.code yX11_kept cX11_kept 4 (some .long)) ∈ wsL_law := sk_mem (ck_4 _ (List.mem_of_getElem? (i := 28) rfl)) rfl
set_option maxHeartbeats 4000000 in
set_option maxRecDepth 100000 in
theorem c_x_kept (l : Launch) (D : va_G) (cI cJ cC cZ cS : ClassId) (x0 : Nat) (q : Nat → Nat) (k : Int32) (w : Int32)  : skM l yX11_kept cX11_kept 4 (some .long) 2 42 0 0 D (skT cI cJ cC cZ cS) [.ref x0, .int k, .int w] [(x0, .inr (11, [.ref (q 0), .ref (q 1), .ref (q 2), .ref (q 3), .ref (q 4), .ref (q 5), .ref (q 6), .ref (q 7), .ref (q 8), .ref (q 9), .ref (q 10), .ref (q 11), .ref (q 12), .ref (q 13), .ref (q 14), .int 0, .ref (q 16), .long 1])), (q 7, .inr (7, [.ref (q 33), .ref (q 34), .int 0, .int 0, .int 0, .int 0, .int 0])), (q 9, .inr (4, [.ref (q 35), .int 0, .ref (q 36), .ref (q 37), .ref (q 38)]))] (skL D (skT cI cJ cC cZ cS) (fun (r : Int64) (u : va_W) => r = -1000000000000000 ∧ u = [])) := by
  refine skM_of (by decide) (Nat.le_of_ble_eq_true rfl) ?_
  intro p e s m below meth c A ls E hP hD hl
  obtain ⟨hx, hb, hr, hml, hlocks, hin, hown, hts, hK, hA⟩ := E
  have hown : s.vm.findClass RX11 = some m.cls := hown
  have hS : va_S A s.heap s.heap [] := va_S.rf
  have hl : lv_has ls 4 [(0, .ref x0), (1, .int k), (2, .int w)] := hl
  refine lv_aload_n hx hb dX11_kept_0 rfl (lv_at hl 0 rfl) ?_
  refine sk_get (v := .ref (q 9)) (C := RX11) (T := TX11) (N := 18) hx hb hts inlX11 hown hK hP 0 rfl rfl 9 (by decide) w_2_132 rfl dX11_kept_1 ?_
  refine lv_aload_n hx hb dX11_kept_4 rfl (lv_at hl 0 rfl) ?_
  refine sk_get (v := .ref (q 7)) (C := RX11) (T := TX11) (N := 18) hx hb hts inlX11 hown hK hP 0 rfl rfl 7 (by decide) w_2_130 rfl dX11_kept_5 ?_
  refine sk_get (v := .int 0) (C := RX7) (T := TX7) (N := 7) hx hb hts inlX7 hown hK hP 1 rfl rfl 6 (by decide) w_2_15 rfl dX11_kept_8 ?_
  refine sk_Vi (q0 := 0) (n := 1) (rest := []) (wr := [(x0, .inr (11, [.ref (q 0), .ref (q 1), .ref (q 2), .ref (q 3), .ref (q 4), .ref (q 5), .ref (q 6), .ref (q 7), .ref (q 8), .ref (q 9), .ref (q 10), .ref (q 11), .ref (q 12), .ref (q 13), .ref (q 14), .int 0, .ref (q 16), .long 1])), (q 7, .inr (7, [.ref (q 33), .ref (q 34), .int 0, .int 0, .int 0, .int 0, .int 0]))]) ⟨hx, hb, hml, hown, hts⟩ hl.1 (c_past_toldOf l D cI cJ cC cZ cS q) w_3_179 w_3_180 w_3_181 w_1_11 w_3_182 (by decide +kernel) ⟨⟨(Nat.le_of_ble_eq_true rfl), (Nat.le_of_ble_eq_true rfl)⟩, (Nat.le_of_ble_eq_true rfl), (Nat.le_of_ble_eq_true rfl)⟩ hK hP hD hS hA [2] [0, 1] rfl rfl (by decide) (by decide) (by decide) rfl rfl rfl rfl (Nat.le_of_ble_eq_true rfl) dX11_kept_11 (fun r_1 u H locs hw hP hD hS => ?_)
  obtain ⟨rfl, rfl⟩ := hw
  have hP : va_P D vwCl [(x0, .inr (11, [.ref (q 0), .ref (q 1), .ref (q 2), .ref (q 3), .ref (q 4), .ref (q 5), .ref (q 6), .ref (q 7), .ref (q 8), .ref (q 9), .ref (q 10), .ref (q 11), .ref (q 12), .ref (q 13), .ref (q 14), .int 0, .ref (q 16), .long 1])), (q 7, .inr (7, [.ref (q 33), .ref (q 34), .int 0, .int 0, .int 0, .int 0, .int 0])), (q 9, .inr (4, [.ref (q 35), .int 0, .ref (q 36), .ref (q 37), .ref (q 38)]))] H := hP
  have hD : va_D A [(x0, .inr (11, [.ref (q 0), .ref (q 1), .ref (q 2), .ref (q 3), .ref (q 4), .ref (q 5), .ref (q 6), .ref (q 7), .ref (q 8), .ref (q 9), .ref (q 10), .ref (q 11), .ref (q 12), .ref (q 13), .ref (q 14), .int 0, .ref (q 16), .long 1])), (q 7, .inr (7, [.ref (q 33), .ref (q 34), .int 0, .int 0, .int 0, .int 0, .int 0])), (q 9, .inr (4, [.ref (q 35), .int 0, .ref (q 36), .ref (q 37), .ref (q 38)]))] := hD
  refine W.widen (k := 0) (n := 0) (Nat.le_of_ble_eq_true rfl) (Nat.le_of_ble_eq_true rfl) ?_
  refine lv_istore_n (lv' := [(3, .int 0), (0, .ref x0), (1, .int k), (2, .int w)]) hx hb dX11_kept_14 rfl hl (by decide) rfl (fun ls hl => ?_)
  refine lv_iload_n hx hb dX11_kept_15 rfl (lv_at hl 2 rfl) ?_
  refine lv_if_lt (tgt := 24) hx hb dX11_kept_16 (by decide) (fun c_2 => ?_) (fun c_2 => ?_)
  · refine lv_ldc2 (v := (-1000000000000000)) hx hb hown (hts _ w_4_29) dX11_kept_24 ?_
    have hP := hP.sub (ws' := []) [] rfl
    have hD := hD.sub (ws' := []) [] (by decide) rfl
    exact sk_lret hx hb hr hlocks hK hP hD hS (⟨rfl, rfl⟩) (Nat.le_of_ble_eq_true rfl) (Nat.le_of_ble_eq_true rfl) dX11_kept_27
  · refine lv_iload_n hx hb dX11_kept_19 rfl (lv_at hl 2 rfl) ?_
    refine lv_iload_n hx hb dX11_kept_20 rfl (lv_at hl 0 rfl) ?_
    refine lv_icmp_lt (tgt := 28) hx hb dX11_kept_21 (by decide) (fun c => absurd c (c_2)) (fun c_3 => ?_)
    refine lv_ldc2 (v := (-1000000000000000)) hx hb hown (hts _ w_4_29) dX11_kept_24 ?_
    have hP := hP.sub (ws' := []) [] rfl
    have hD := hD.sub (ws' := []) [] (by decide) rfl
    exact sk_lret hx hb hr hlocks hK hP hD hS (⟨rfl, rfl⟩) (Nat.le_of_ble_eq_true rfl) (Nat.le_of_ble_eq_true rfl) dX11_kept_27
theorem dX11_weeks_0 : decode cX11_weeks 0 = .ok (.aload_n 0, 1) := by decide +kernel
theorem dX11_weeks_1 : decode cX11_weeks 1 = .ok (.invokevirtual 204, 3) := by decide +kernel
theorem dX11_weeks_4 : decode cX11_weeks 4 = .ok (.ifCond .ne 7, 3) := by decide +kernel
theorem dX11_weeks_7 : decode cX11_weeks 7 = .ok (.ldc2_w 198, 3) := by decide +kernel
theorem dX11_weeks_10 : decode cX11_weeks 10 = .ok (.lreturn, 1) := by decide +kernel
theorem w_4_39 : (Cond.methodLink RX11 204 yX11_isLocked) ∈ wsL_law := sk_mem (ck_4 _ (List.mem_of_getElem? (i := 39) rfl)) rfl
theorem w_4_41 : (Cond.instanceMethod yX11_isLocked) ∈ wsL_law := sk_mem (ck_4 _ (List.mem_of_getElem? (i := 41) rfl)) rfl
theorem w_0_18 : (Cond.selects RX11 yX11_isLocked yX11_isLocked) ∈ wsL_law := sk_mem (ck_0 _ (List.mem_of_getElem? (i := 18) rfl)) rfl
theorem w_4_38 : (Cond.code yX11_weeks cX11_weeks 1 (some .long)) ∈ wsL_law := sk_mem (ck_4 _ (List.mem_of_getElem? (i := 38) rfl)) rfl
set_option maxHeartbeats 4000000 in
set_option maxRecDepth 100000 in
theorem c_x_weeks (l : Launch) (D : va_G) (cI cJ cC cZ cS : ClassId) (x0 : Nat) (q : Nat → Nat)  : skM l yX11_weeks cX11_weeks 1 (some .long) 1 20 0 0 D (skT cI cJ cC cZ cS) [.ref x0] [(x0, .inr (11, [.ref (q 0), .ref (q 1), .ref (q 2), .ref (q 3), .ref (q 4), .ref (q 5), .ref (q 6), .ref (q 7), .ref (q 8), .ref (q 9), .ref (q 10), .ref (q 11), .ref (q 12), .ref (q 13), .ref (q 14), .int 0, .ref (q 16), .long 1])), (q 7, .inr (7, [.ref (q 33), .ref (q 34), .int 0, .int 0, .int 0, .int 0, .int 0]))] (skL D (skT cI cJ cC cZ cS) (fun (r : Int64) (u : va_W) => r = -1000000000000000 ∧ u = [])) := by
  refine skM_of (by decide) (Nat.le_of_ble_eq_true rfl) ?_
  intro p e s m below meth c A ls E hP hD hl
  obtain ⟨hx, hb, hr, hml, hlocks, hin, hown, hts, hK, hA⟩ := E
  have hown : s.vm.findClass RX11 = some m.cls := hown
  have hS : va_S A s.heap s.heap [] := va_S.rf
  have hl : lv_has ls 1 [(0, .ref x0)] := hl
  refine lv_aload_n hx hb dX11_weeks_0 rfl (lv_at hl 0 rfl) ?_
  refine sk_Vi (q0 := 0) (n := 0) (rest := []) (wr := []) ⟨hx, hb, hml, hown, hts⟩ hl.1 (c_x_isLocked l D cI cJ cC cZ cS x0 q) w_4_39 w_4_41 w_0_18 w_1_1 w_4_42 (by decide +kernel) ⟨⟨(Nat.le_of_ble_eq_true rfl), (Nat.le_of_ble_eq_true rfl)⟩, (Nat.le_of_ble_eq_true rfl), (Nat.le_of_ble_eq_true rfl)⟩ hK hP hD hS hA [0, 1] [] rfl rfl (by decide) (by decide) (by decide) rfl rfl rfl rfl (Nat.le_of_ble_eq_true rfl) dX11_weeks_1 (fun r_1 u H locs hw hP hD hS => ?_)
  obtain ⟨rfl, rfl⟩ := hw
  have hP : va_P D vwCl [(x0, .inr (11, [.ref (q 0), .ref (q 1), .ref (q 2), .ref (q 3), .ref (q 4), .ref (q 5), .ref (q 6), .ref (q 7), .ref (q 8), .ref (q 9), .ref (q 10), .ref (q 11), .ref (q 12), .ref (q 13), .ref (q 14), .int 0, .ref (q 16), .long 1])), (q 7, .inr (7, [.ref (q 33), .ref (q 34), .int 0, .int 0, .int 0, .int 0, .int 0]))] H := hP
  have hD : va_D A [(x0, .inr (11, [.ref (q 0), .ref (q 1), .ref (q 2), .ref (q 3), .ref (q 4), .ref (q 5), .ref (q 6), .ref (q 7), .ref (q 8), .ref (q 9), .ref (q 10), .ref (q 11), .ref (q 12), .ref (q 13), .ref (q 14), .int 0, .ref (q 16), .long 1])), (q 7, .inr (7, [.ref (q 33), .ref (q 34), .int 0, .int 0, .int 0, .int 0, .int 0]))] := hD
  refine W.widen (k := 0) (n := 0) (Nat.le_of_ble_eq_true rfl) (Nat.le_of_ble_eq_true rfl) ?_
  refine lv_if_ne (tgt := 11) hx hb dX11_weeks_4 (by decide) (fun c => absurd c (by decide)) (fun c_2 => ?_)
  refine lv_ldc2 (v := (-1000000000000000)) hx hb hown (hts _ w_4_29) dX11_weeks_7 ?_
  have hP := hP.sub (ws' := []) [] rfl
  have hD := hD.sub (ws' := []) [] (by decide) rfl
  exact sk_lret hx hb hr hlocks hK hP hD hS (⟨rfl, rfl⟩) (Nat.le_of_ble_eq_true rfl) (Nat.le_of_ble_eq_true rfl) dX11_weeks_10
theorem dX11_mood_0 : decode cX11_mood 0 = .ok (.aload_n 0, 1) := by decide +kernel
theorem dX11_mood_1 : decode cX11_mood 1 = .ok (.iload_n 2, 1) := by decide +kernel
theorem dX11_mood_2 : decode cX11_mood 2 = .ok (.invokevirtual 170, 3) := by decide +kernel
theorem dX11_mood_5 : decode cX11_mood 5 = .ok (.ifCond .eq 15, 3) := by decide +kernel
theorem dX11_mood_20 : decode cX11_mood 20 = .ok (.iconst (-1), 1) := by decide +kernel
theorem dX11_mood_21 : decode cX11_mood 21 = .ok (.ireturn, 1) := by decide +kernel
theorem w_4_68 : (Cond.code yX11_mood cX11_mood 3 (some .int)) ∈ wsL_law := sk_mem (ck_4 _ (List.mem_of_getElem? (i := 68) rfl)) rfl
set_option maxHeartbeats 4000000 in
set_option maxRecDepth 100000 in
theorem c_x_mood (l : Launch) (D : va_G) (cI cJ cC cZ cS : ClassId) (x0 : Nat) (q : Nat → Nat) (k : Int32) (d : Int32)  : skM l yX11_mood cX11_mood 3 (some .int) 1 21 0 0 D (skT cI cJ cC cZ cS) [.ref x0, .int k, .int d] [(x0, .inr (11, [.ref (q 0), .ref (q 1), .ref (q 2), .ref (q 3), .ref (q 4), .ref (q 5), .ref (q 6), .ref (q 7), .ref (q 8), .ref (q 9), .ref (q 10), .ref (q 11), .ref (q 12), .ref (q 13), .ref (q 14), .int 0, .ref (q 16), .long 1])), (q 7, .inr (7, [.ref (q 33), .ref (q 34), .int 0, .int 0, .int 0, .int 0, .int 0]))] (skI D (skT cI cJ cC cZ cS) (fun (r : Int32) (u : va_W) => r = -1 ∧ u = [])) := by
  refine skM_of (by decide) (Nat.le_of_ble_eq_true rfl) ?_
  intro p e s m below meth c A ls E hP hD hl
  obtain ⟨hx, hb, hr, hml, hlocks, hin, hown, hts, hK, hA⟩ := E
  have hown : s.vm.findClass RX11 = some m.cls := hown
  have hS : va_S A s.heap s.heap [] := va_S.rf
  have hl : lv_has ls 3 [(0, .ref x0), (1, .int k), (2, .int d)] := hl
  refine lv_aload_n hx hb dX11_mood_0 rfl (lv_at hl 0 rfl) ?_
  refine lv_iload_n hx hb dX11_mood_1 rfl (lv_at hl 2 rfl) ?_
  refine sk_Vi (q0 := 0) (n := 1) (rest := []) (wr := []) ⟨hx, hb, hml, hown, hts⟩ hl.1 (c_x_isDay l D cI cJ cC cZ cS x0 q d) w_3_190 w_3_192 w_0_14 w_1_1 w_3_193 (by decide +kernel) ⟨⟨(Nat.le_of_ble_eq_true rfl), (Nat.le_of_ble_eq_true rfl)⟩, (Nat.le_of_ble_eq_true rfl), (Nat.le_of_ble_eq_true rfl)⟩ hK hP hD hS hA [0, 1] [] rfl rfl (by decide) (by decide) (by decide) rfl rfl rfl rfl (Nat.le_of_ble_eq_true rfl) dX11_mood_2 (fun r_1 u H locs hw hP hD hS => ?_)
  obtain ⟨rfl, rfl⟩ := hw
  have hP : va_P D vwCl [(x0, .inr (11, [.ref (q 0), .ref (q 1), .ref (q 2), .ref (q 3), .ref (q 4), .ref (q 5), .ref (q 6), .ref (q 7), .ref (q 8), .ref (q 9), .ref (q 10), .ref (q 11), .ref (q 12), .ref (q 13), .ref (q 14), .int 0, .ref (q 16), .long 1])), (q 7, .inr (7, [.ref (q 33), .ref (q 34), .int 0, .int 0, .int 0, .int 0, .int 0]))] H := hP
  have hD : va_D A [(x0, .inr (11, [.ref (q 0), .ref (q 1), .ref (q 2), .ref (q 3), .ref (q 4), .ref (q 5), .ref (q 6), .ref (q 7), .ref (q 8), .ref (q 9), .ref (q 10), .ref (q 11), .ref (q 12), .ref (q 13), .ref (q 14), .int 0, .ref (q 16), .long 1])), (q 7, .inr (7, [.ref (q 33), .ref (q 34), .int 0, .int 0, .int 0, .int 0, .int 0]))] := hD
  refine W.widen (k := 0) (n := 0) (Nat.le_of_ble_eq_true rfl) (Nat.le_of_ble_eq_true rfl) ?_
  refine lv_if_eq (tgt := 20) hx hb dX11_mood_5 (by decide) (fun c_2 => ?_) (fun c => absurd c (by decide))
  refine lv_iconst (v := (-1)) hx hb dX11_mood_20 (by decide) ?_
  have hP := hP.sub (ws' := []) [] rfl
  have hD := hD.sub (ws' := []) [] (by decide) rfl
  exact sk_iret hx hb hr rfl hlocks hK hP hD hS (⟨rfl, rfl⟩) (Nat.le_of_ble_eq_true rfl) (Nat.le_of_ble_eq_true rfl) dX11_mood_21
theorem dX11_many_0 : decode cX11_many 0 = .ok (.aload_n 0, 1) := by decide +kernel
theorem dX11_many_1 : decode cX11_many 1 = .ok (.iload_n 1, 1) := by decide +kernel
theorem dX11_many_2 : decode cX11_many 2 = .ok (.invokevirtual 170, 3) := by decide +kernel
theorem dX11_many_5 : decode cX11_many 5 = .ok (.ifCond .eq 10, 3) := by decide +kernel
theorem dX11_many_15 : decode cX11_many 15 = .ok (.ldc2_w 198, 3) := by decide +kernel
theorem dX11_many_18 : decode cX11_many 18 = .ok (.lreturn, 1) := by decide +kernel
theorem w_4_80 : (Cond.code yX11_many cX11_many 3 (some .long)) ∈ wsL_law := sk_mem (ck_4 _ (List.mem_of_getElem? (i := 80) rfl)) rfl
set_option maxHeartbeats 4000000 in
set_option maxRecDepth 100000 in
theorem c_x_many (l : Launch) (D : va_G) (cI cJ cC cZ cS : ClassId) (x0 : Nat) (q : Nat → Nat) (d : Int32) (o : Int32)  : skM l yX11_many cX11_many 3 (some .long) 1 21 0 0 D (skT cI cJ cC cZ cS) [.ref x0, .int d, .int o] [(x0, .inr (11, [.ref (q 0), .ref (q 1), .ref (q 2), .ref (q 3), .ref (q 4), .ref (q 5), .ref (q 6), .ref (q 7), .ref (q 8), .ref (q 9), .ref (q 10), .ref (q 11), .ref (q 12), .ref (q 13), .ref (q 14), .int 0, .ref (q 16), .long 1])), (q 7, .inr (7, [.ref (q 33), .ref (q 34), .int 0, .int 0, .int 0, .int 0, .int 0]))] (skL D (skT cI cJ cC cZ cS) (fun (r : Int64) (u : va_W) => r = -1000000000000000 ∧ u = [])) := by
  refine skM_of (by decide) (Nat.le_of_ble_eq_true rfl) ?_
  intro p e s m below meth c A ls E hP hD hl
  obtain ⟨hx, hb, hr, hml, hlocks, hin, hown, hts, hK, hA⟩ := E
  have hown : s.vm.findClass RX11 = some m.cls := hown
  have hS : va_S A s.heap s.heap [] := va_S.rf
  have hl : lv_has ls 3 [(0, .ref x0), (1, .int d), (2, .int o)] := hl
  refine lv_aload_n hx hb dX11_many_0 rfl (lv_at hl 0 rfl) ?_
  refine lv_iload_n hx hb dX11_many_1 rfl (lv_at hl 1 rfl) ?_
  refine sk_Vi (q0 := 0) (n := 1) (rest := []) (wr := []) ⟨hx, hb, hml, hown, hts⟩ hl.1 (c_x_isDay l D cI cJ cC cZ cS x0 q d) w_3_190 w_3_192 w_0_14 w_1_1 w_3_193 (by decide +kernel) ⟨⟨(Nat.le_of_ble_eq_true rfl), (Nat.le_of_ble_eq_true rfl)⟩, (Nat.le_of_ble_eq_true rfl), (Nat.le_of_ble_eq_true rfl)⟩ hK hP hD hS hA [0, 1] [] rfl rfl (by decide) (by decide) (by decide) rfl rfl rfl rfl (Nat.le_of_ble_eq_true rfl) dX11_many_2 (fun r_1 u H locs hw hP hD hS => ?_)
  obtain ⟨rfl, rfl⟩ := hw
  have hP : va_P D vwCl [(x0, .inr (11, [.ref (q 0), .ref (q 1), .ref (q 2), .ref (q 3), .ref (q 4), .ref (q 5), .ref (q 6), .ref (q 7), .ref (q 8), .ref (q 9), .ref (q 10), .ref (q 11), .ref (q 12), .ref (q 13), .ref (q 14), .int 0, .ref (q 16), .long 1])), (q 7, .inr (7, [.ref (q 33), .ref (q 34), .int 0, .int 0, .int 0, .int 0, .int 0]))] H := hP
  have hD : va_D A [(x0, .inr (11, [.ref (q 0), .ref (q 1), .ref (q 2), .ref (q 3), .ref (q 4), .ref (q 5), .ref (q 6), .ref (q 7), .ref (q 8), .ref (q 9), .ref (q 10), .ref (q 11), .ref (q 12), .ref (q 13), .ref (q 14), .int 0, .ref (q 16), .long 1])), (q 7, .inr (7, [.ref (q 33), .ref (q 34), .int 0, .int 0, .int 0, .int 0, .int 0]))] := hD
  refine W.widen (k := 0) (n := 0) (Nat.le_of_ble_eq_true rfl) (Nat.le_of_ble_eq_true rfl) ?_
  refine lv_if_eq (tgt := 15) hx hb dX11_many_5 (by decide) (fun c_2 => ?_) (fun c => absurd c (by decide))
  refine lv_ldc2 (v := (-1000000000000000)) hx hb hown (hts _ w_4_29) dX11_many_15 ?_
  have hP := hP.sub (ws' := []) [] rfl
  have hD := hD.sub (ws' := []) [] (by decide) rfl
  exact sk_lret hx hb hr hlocks hK hP hD hS (⟨rfl, rfl⟩) (Nat.le_of_ble_eq_true rfl) (Nat.le_of_ble_eq_true rfl) dX11_many_18
theorem dX11_fewest_0 : decode cX11_fewest 0 = .ok (.aload_n 0, 1) := by decide +kernel
theorem dX11_fewest_1 : decode cX11_fewest 1 = .ok (.invokevirtual 204, 3) := by decide +kernel
theorem dX11_fewest_4 : decode cX11_fewest 4 = .ok (.ifCond .ne 5, 3) := by decide +kernel
theorem dX11_fewest_7 : decode cX11_fewest 7 = .ok (.iconst (-1), 1) := by decide +kernel
theorem dX11_fewest_8 : decode cX11_fewest 8 = .ok (.ireturn, 1) := by decide +kernel
theorem w_4_99 : (Cond.code yX11_fewest cX11_fewest 7 (some .int)) ∈ wsL_law := sk_mem (ck_4 _ (List.mem_of_getElem? (i := 99) rfl)) rfl
set_option maxHeartbeats 4000000 in
set_option maxRecDepth 100000 in
theorem c_x_fewest (l : Launch) (D : va_G) (cI cJ cC cZ cS : ClassId) (x0 : Nat) (q : Nat → Nat) (a1 : Int32) (b1 : Int32) (c1 : Int32)  : skM l yX11_fewest cX11_fewest 7 (some .int) 1 20 0 0 D (skT cI cJ cC cZ cS) [.ref x0, .int a1, .int b1, .int c1] [(x0, .inr (11, [.ref (q 0), .ref (q 1), .ref (q 2), .ref (q 3), .ref (q 4), .ref (q 5), .ref (q 6), .ref (q 7), .ref (q 8), .ref (q 9), .ref (q 10), .ref (q 11), .ref (q 12), .ref (q 13), .ref (q 14), .int 0, .ref (q 16), .long 1])), (q 7, .inr (7, [.ref (q 33), .ref (q 34), .int 0, .int 0, .int 0, .int 0, .int 0]))] (skI D (skT cI cJ cC cZ cS) (fun (r : Int32) (u : va_W) => r = -1 ∧ u = [(x0, .inr (11, [.ref (q 0), .ref (q 1), .ref (q 2), .ref (q 3), .ref (q 4), .ref (q 5), .ref (q 6), .ref (q 7), .ref (q 8), .ref (q 9), .ref (q 10), .ref (q 11), .ref (q 12), .ref (q 13), .ref (q 14), .int 0, .ref (q 16), .long 1])), (q 7, .inr (7, [.ref (q 33), .ref (q 34), .int 0, .int 0, .int 0, .int 0, .int 0]))])) := by
  refine skM_of (by decide) (Nat.le_of_ble_eq_true rfl) ?_
  intro p e s m below meth c A ls E hP hD hl
  obtain ⟨hx, hb, hr, hml, hlocks, hin, hown, hts, hK, hA⟩ := E
  have hown : s.vm.findClass RX11 = some m.cls := hown
  have hS : va_S A s.heap s.heap [] := va_S.rf
  have hl : lv_has ls 7 [(0, .ref x0), (1, .int a1), (2, .int b1), (3, .int c1)] := hl
  refine lv_aload_n hx hb dX11_fewest_0 rfl (lv_at hl 0 rfl) ?_
  refine sk_Vi (q0 := 0) (n := 0) (rest := []) (wr := []) ⟨hx, hb, hml, hown, hts⟩ hl.1 (c_x_isLocked l D cI cJ cC cZ cS x0 q) w_4_39 w_4_41 w_0_18 w_1_1 w_4_42 (by decide +kernel) ⟨⟨(Nat.le_of_ble_eq_true rfl), (Nat.le_of_ble_eq_true rfl)⟩, (Nat.le_of_ble_eq_true rfl), (Nat.le_of_ble_eq_true rfl)⟩ hK hP hD hS hA [0, 1] [] rfl rfl (by decide) (by decide) (by decide) rfl rfl rfl rfl (Nat.le_of_ble_eq_true rfl) dX11_fewest_1 (fun r_1 u H locs hw hP hD hS => ?_)
  obtain ⟨rfl, rfl⟩ := hw
  have hP : va_P D vwCl [(x0, .inr (11, [.ref (q 0), .ref (q 1), .ref (q 2), .ref (q 3), .ref (q 4), .ref (q 5), .ref (q 6), .ref (q 7), .ref (q 8), .ref (q 9), .ref (q 10), .ref (q 11), .ref (q 12), .ref (q 13), .ref (q 14), .int 0, .ref (q 16), .long 1])), (q 7, .inr (7, [.ref (q 33), .ref (q 34), .int 0, .int 0, .int 0, .int 0, .int 0]))] H := hP
  have hD : va_D A [(x0, .inr (11, [.ref (q 0), .ref (q 1), .ref (q 2), .ref (q 3), .ref (q 4), .ref (q 5), .ref (q 6), .ref (q 7), .ref (q 8), .ref (q 9), .ref (q 10), .ref (q 11), .ref (q 12), .ref (q 13), .ref (q 14), .int 0, .ref (q 16), .long 1])), (q 7, .inr (7, [.ref (q 33), .ref (q 34), .int 0, .int 0, .int 0, .int 0, .int 0]))] := hD
  refine W.widen (k := 0) (n := 0) (Nat.le_of_ble_eq_true rfl) (Nat.le_of_ble_eq_true rfl) ?_
  refine lv_if_ne (tgt := 9) hx hb dX11_fewest_4 (by decide) (fun c => absurd c (by decide)) (fun c_2 => ?_)
  refine lv_iconst (v := (-1)) hx hb dX11_fewest_7 (by decide) ?_
  exact sk_iret hx hb hr rfl hlocks hK hP hD hS (⟨rfl, rfl⟩) (Nat.le_of_ble_eq_true rfl) (Nat.le_of_ble_eq_true rfl) dX11_fewest_8
theorem dX11_hushed_0 : decode cX11_hushed 0 = .ok (.aload_n 0, 1) := by decide +kernel
theorem dX11_hushed_1 : decode cX11_hushed 1 = .ok (.iconst 0, 1) := by decide +kernel
theorem dX11_hushed_2 : decode cX11_hushed 2 = .ok (.iconst 0, 1) := by decide +kernel
theorem dX11_hushed_3 : decode cX11_hushed 3 = .ok (.iconst 0, 1) := by decide +kernel
theorem dX11_hushed_4 : decode cX11_hushed 4 = .ok (.invokevirtual 226, 3) := by decide +kernel
theorem dX11_hushed_7 : decode cX11_hushed 7 = .ok (.ireturn, 1) := by decide +kernel
theorem w_4_96 : (Cond.methodLink RX11 226 yX11_fewest) ∈ wsL_law := sk_mem (ck_4 _ (List.mem_of_getElem? (i := 96) rfl)) rfl
theorem w_4_98 : (Cond.instanceMethod yX11_fewest) ∈ wsL_law := sk_mem (ck_4 _ (List.mem_of_getElem? (i := 98) rfl)) rfl
theorem w_0_22 : (Cond.selects RX11 yX11_fewest yX11_fewest) ∈ wsL_law := sk_mem (ck_0 _ (List.mem_of_getElem? (i := 22) rfl)) rfl
theorem w_4_95 : (Cond.code yX11_hushed cX11_hushed 1 (some .int)) ∈ wsL_law := sk_mem (ck_4 _ (List.mem_of_getElem? (i := 95) rfl)) rfl
set_option maxHeartbeats 4000000 in
set_option maxRecDepth 100000 in
theorem c_x_hushed (l : Launch) (D : va_G) (cI cJ cC cZ cS : ClassId) (x0 : Nat) (q : Nat → Nat)  : skM l yX11_hushed cX11_hushed 1 (some .int) 2 46 0 0 D (skT cI cJ cC cZ cS) [.ref x0] [(x0, .inr (11, [.ref (q 0), .ref (q 1), .ref (q 2), .ref (q 3), .ref (q 4), .ref (q 5), .ref (q 6), .ref (q 7), .ref (q 8), .ref (q 9), .ref (q 10), .ref (q 11), .ref (q 12), .ref (q 13), .ref (q 14), .int 0, .ref (q 16), .long 1])), (q 7, .inr (7, [.ref (q 33), .ref (q 34), .int 0, .int 0, .int 0, .int 0, .int 0]))] (skI D (skT cI cJ cC cZ cS) (fun (r : Int32) (u : va_W) => r = -1 ∧ u = [])) := by
  refine skM_of (by decide) (Nat.le_of_ble_eq_true rfl) ?_
  intro p e s m below meth c A ls E hP hD hl
  obtain ⟨hx, hb, hr, hml, hlocks, hin, hown, hts, hK, hA⟩ := E
  have hown : s.vm.findClass RX11 = some m.cls := hown
  have hS : va_S A s.heap s.heap [] := va_S.rf
  have hl : lv_has ls 1 [(0, .ref x0)] := hl
  refine lv_aload_n hx hb dX11_hushed_0 rfl (lv_at hl 0 rfl) ?_
  refine lv_iconst (v := 0) hx hb dX11_hushed_1 (by decide) ?_
  refine lv_iconst (v := 0) hx hb dX11_hushed_2 (by decide) ?_
  refine lv_iconst (v := 0) hx hb dX11_hushed_3 (by decide) ?_
  refine sk_Vi (q0 := 0) (n := 3) (rest := []) (wr := []) ⟨hx, hb, hml, hown, hts⟩ hl.1 (c_x_fewest l D cI cJ cC cZ cS x0 q 0 0 0) w_4_96 w_4_98 w_0_22 w_1_1 w_4_99 (by decide +kernel) ⟨⟨(Nat.le_of_ble_eq_true rfl), (Nat.le_of_ble_eq_true rfl)⟩, (Nat.le_of_ble_eq_true rfl), (Nat.le_of_ble_eq_true rfl)⟩ hK hP hD hS hA [0, 1] [] rfl rfl (by decide) (by decide) (by decide) rfl rfl rfl rfl (Nat.le_of_ble_eq_true rfl) dX11_hushed_4 (fun r_1 u H locs hw hP hD hS => ?_)
  obtain ⟨rfl, rfl⟩ := hw
  have hP : va_P D vwCl [(x0, .inr (11, [.ref (q 0), .ref (q 1), .ref (q 2), .ref (q 3), .ref (q 4), .ref (q 5), .ref (q 6), .ref (q 7), .ref (q 8), .ref (q 9), .ref (q 10), .ref (q 11), .ref (q 12), .ref (q 13), .ref (q 14), .int 0, .ref (q 16), .long 1])), (q 7, .inr (7, [.ref (q 33), .ref (q 34), .int 0, .int 0, .int 0, .int 0, .int 0]))] H := hP
  have hD : va_D A [(x0, .inr (11, [.ref (q 0), .ref (q 1), .ref (q 2), .ref (q 3), .ref (q 4), .ref (q 5), .ref (q 6), .ref (q 7), .ref (q 8), .ref (q 9), .ref (q 10), .ref (q 11), .ref (q 12), .ref (q 13), .ref (q 14), .int 0, .ref (q 16), .long 1])), (q 7, .inr (7, [.ref (q 33), .ref (q 34), .int 0, .int 0, .int 0, .int 0, .int 0]))] := hD
  refine W.widen (k := 0) (n := 0) (Nat.le_of_ble_eq_true rfl) (Nat.le_of_ble_eq_true rfl) ?_
  have hP := hP.sub (ws' := []) [] rfl
  have hD := hD.sub (ws' := []) [] (by decide) rfl
  exact sk_iret hx hb hr rfl hlocks hK hP hD hS (⟨rfl, rfl⟩) (Nat.le_of_ble_eq_true rfl) (Nat.le_of_ble_eq_true rfl) dX11_hushed_7
theorem dX11_wished_0 : decode cX11_wished 0 = .ok (.aload_n 0, 1) := by decide +kernel
theorem dX11_wished_1 : decode cX11_wished 1 = .ok (.iload_n 1, 1) := by decide +kernel
theorem dX11_wished_2 : decode cX11_wished 2 = .ok (.invokevirtual 170, 3) := by decide +kernel
theorem dX11_wished_5 : decode cX11_wished 5 = .ok (.ifCond .eq 10, 3) := by decide +kernel
theorem dX11_wished_15 : decode cX11_wished 15 = .ok (.iconst (-1), 1) := by decide +kernel
theorem dX11_wished_16 : decode cX11_wished 16 = .ok (.ireturn, 1) := by decide +kernel
theorem w_4_123 : (Cond.code yX11_wished cX11_wished 3 (some .int)) ∈ wsL_law := sk_mem (ck_4 _ (List.mem_of_getElem? (i := 123) rfl)) rfl
set_option maxHeartbeats 4000000 in
set_option maxRecDepth 100000 in
theorem c_x_wished (l : Launch) (D : va_G) (cI cJ cC cZ cS : ClassId) (x0 : Nat) (q : Nat → Nat) (d : Int32) (o : Int32)  : skM l yX11_wished cX11_wished 3 (some .int) 1 21 0 0 D (skT cI cJ cC cZ cS) [.ref x0, .int d, .int o] [(x0, .inr (11, [.ref (q 0), .ref (q 1), .ref (q 2), .ref (q 3), .ref (q 4), .ref (q 5), .ref (q 6), .ref (q 7), .ref (q 8), .ref (q 9), .ref (q 10), .ref (q 11), .ref (q 12), .ref (q 13), .ref (q 14), .int 0, .ref (q 16), .long 1])), (q 7, .inr (7, [.ref (q 33), .ref (q 34), .int 0, .int 0, .int 0, .int 0, .int 0]))] (skI D (skT cI cJ cC cZ cS) (fun (r : Int32) (u : va_W) => r = -1 ∧ u = [])) := by
  refine skM_of (by decide) (Nat.le_of_ble_eq_true rfl) ?_
  intro p e s m below meth c A ls E hP hD hl
  obtain ⟨hx, hb, hr, hml, hlocks, hin, hown, hts, hK, hA⟩ := E
  have hown : s.vm.findClass RX11 = some m.cls := hown
  have hS : va_S A s.heap s.heap [] := va_S.rf
  have hl : lv_has ls 3 [(0, .ref x0), (1, .int d), (2, .int o)] := hl
  refine lv_aload_n hx hb dX11_wished_0 rfl (lv_at hl 0 rfl) ?_
  refine lv_iload_n hx hb dX11_wished_1 rfl (lv_at hl 1 rfl) ?_
  refine sk_Vi (q0 := 0) (n := 1) (rest := []) (wr := []) ⟨hx, hb, hml, hown, hts⟩ hl.1 (c_x_isDay l D cI cJ cC cZ cS x0 q d) w_3_190 w_3_192 w_0_14 w_1_1 w_3_193 (by decide +kernel) ⟨⟨(Nat.le_of_ble_eq_true rfl), (Nat.le_of_ble_eq_true rfl)⟩, (Nat.le_of_ble_eq_true rfl), (Nat.le_of_ble_eq_true rfl)⟩ hK hP hD hS hA [0, 1] [] rfl rfl (by decide) (by decide) (by decide) rfl rfl rfl rfl (Nat.le_of_ble_eq_true rfl) dX11_wished_2 (fun r_1 u H locs hw hP hD hS => ?_)
  obtain ⟨rfl, rfl⟩ := hw
  have hP : va_P D vwCl [(x0, .inr (11, [.ref (q 0), .ref (q 1), .ref (q 2), .ref (q 3), .ref (q 4), .ref (q 5), .ref (q 6), .ref (q 7), .ref (q 8), .ref (q 9), .ref (q 10), .ref (q 11), .ref (q 12), .ref (q 13), .ref (q 14), .int 0, .ref (q 16), .long 1])), (q 7, .inr (7, [.ref (q 33), .ref (q 34), .int 0, .int 0, .int 0, .int 0, .int 0]))] H := hP
  have hD : va_D A [(x0, .inr (11, [.ref (q 0), .ref (q 1), .ref (q 2), .ref (q 3), .ref (q 4), .ref (q 5), .ref (q 6), .ref (q 7), .ref (q 8), .ref (q 9), .ref (q 10), .ref (q 11), .ref (q 12), .ref (q 13), .ref (q 14), .int 0, .ref (q 16), .long 1])), (q 7, .inr (7, [.ref (q 33), .ref (q 34), .int 0, .int 0, .int 0, .int 0, .int 0]))] := hD
  refine W.widen (k := 0) (n := 0) (Nat.le_of_ble_eq_true rfl) (Nat.le_of_ble_eq_true rfl) ?_
  refine lv_if_eq (tgt := 15) hx hb dX11_wished_5 (by decide) (fun c_2 => ?_) (fun c => absurd c (by decide))
  refine lv_iconst (v := (-1)) hx hb dX11_wished_15 (by decide) ?_
  have hP := hP.sub (ws' := []) [] rfl
  have hD := hD.sub (ws' := []) [] (by decide) rfl
  exact sk_iret hx hb hr rfl hlocks hK hP hD hS (⟨rfl, rfl⟩) (Nat.le_of_ble_eq_true rfl) (Nat.le_of_ble_eq_true rfl) dX11_wished_16
theorem dX11_lies_0 : decode cX11_lies 0 = .ok (.aload_n 0, 1) := by decide +kernel
theorem dX11_lies_1 : decode cX11_lies 1 = .ok (.invokevirtual 204, 3) := by decide +kernel
theorem dX11_lies_4 : decode cX11_lies 4 = .ok (.ifCond .ne 5, 3) := by decide +kernel
theorem dX11_lies_7 : decode cX11_lies 7 = .ok (.iconst (-1), 1) := by decide +kernel
theorem dX11_lies_8 : decode cX11_lies 8 = .ok (.ireturn, 1) := by decide +kernel
theorem w_4_127 : (Cond.code yX11_lies cX11_lies 3 (some .int)) ∈ wsL_law := sk_mem (ck_4 _ (List.mem_of_getElem? (i := 127) rfl)) rfl
set_option maxHeartbeats 4000000 in
set_option maxRecDepth 100000 in
theorem c_x_lies (l : Launch) (D : va_G) (cI cJ cC cZ cS : ClassId) (x0 : Nat) (q : Nat → Nat)  : skM l yX11_lies cX11_lies 3 (some .int) 1 20 0 0 D (skT cI cJ cC cZ cS) [.ref x0] [(x0, .inr (11, [.ref (q 0), .ref (q 1), .ref (q 2), .ref (q 3), .ref (q 4), .ref (q 5), .ref (q 6), .ref (q 7), .ref (q 8), .ref (q 9), .ref (q 10), .ref (q 11), .ref (q 12), .ref (q 13), .ref (q 14), .int 0, .ref (q 16), .long 1])), (q 7, .inr (7, [.ref (q 33), .ref (q 34), .int 0, .int 0, .int 0, .int 0, .int 0]))] (skI D (skT cI cJ cC cZ cS) (fun (r : Int32) (u : va_W) => r = -1 ∧ u = [])) := by
  refine skM_of (by decide) (Nat.le_of_ble_eq_true rfl) ?_
  intro p e s m below meth c A ls E hP hD hl
  obtain ⟨hx, hb, hr, hml, hlocks, hin, hown, hts, hK, hA⟩ := E
  have hown : s.vm.findClass RX11 = some m.cls := hown
  have hS : va_S A s.heap s.heap [] := va_S.rf
  have hl : lv_has ls 3 [(0, .ref x0)] := hl
  refine lv_aload_n hx hb dX11_lies_0 rfl (lv_at hl 0 rfl) ?_
  refine sk_Vi (q0 := 0) (n := 0) (rest := []) (wr := []) ⟨hx, hb, hml, hown, hts⟩ hl.1 (c_x_isLocked l D cI cJ cC cZ cS x0 q) w_4_39 w_4_41 w_0_18 w_1_1 w_4_42 (by decide +kernel) ⟨⟨(Nat.le_of_ble_eq_true rfl), (Nat.le_of_ble_eq_true rfl)⟩, (Nat.le_of_ble_eq_true rfl), (Nat.le_of_ble_eq_true rfl)⟩ hK hP hD hS hA [0, 1] [] rfl rfl (by decide) (by decide) (by decide) rfl rfl rfl rfl (Nat.le_of_ble_eq_true rfl) dX11_lies_1 (fun r_1 u H locs hw hP hD hS => ?_)
  obtain ⟨rfl, rfl⟩ := hw
  have hP : va_P D vwCl [(x0, .inr (11, [.ref (q 0), .ref (q 1), .ref (q 2), .ref (q 3), .ref (q 4), .ref (q 5), .ref (q 6), .ref (q 7), .ref (q 8), .ref (q 9), .ref (q 10), .ref (q 11), .ref (q 12), .ref (q 13), .ref (q 14), .int 0, .ref (q 16), .long 1])), (q 7, .inr (7, [.ref (q 33), .ref (q 34), .int 0, .int 0, .int 0, .int 0, .int 0]))] H := hP
  have hD : va_D A [(x0, .inr (11, [.ref (q 0), .ref (q 1), .ref (q 2), .ref (q 3), .ref (q 4), .ref (q 5), .ref (q 6), .ref (q 7), .ref (q 8), .ref (q 9), .ref (q 10), .ref (q 11), .ref (q 12), .ref (q 13), .ref (q 14), .int 0, .ref (q 16), .long 1])), (q 7, .inr (7, [.ref (q 33), .ref (q 34), .int 0, .int 0, .int 0, .int 0, .int 0]))] := hD
  refine W.widen (k := 0) (n := 0) (Nat.le_of_ble_eq_true rfl) (Nat.le_of_ble_eq_true rfl) ?_
  refine lv_if_ne (tgt := 9) hx hb dX11_lies_4 (by decide) (fun c => absurd c (by decide)) (fun c_2 => ?_)
  refine lv_iconst (v := (-1)) hx hb dX11_lies_7 (by decide) ?_
  have hP := hP.sub (ws' := []) [] rfl
  have hD := hD.sub (ws' := []) [] (by decide) rfl
  exact sk_iret hx hb hr rfl hlocks hK hP hD hS (⟨rfl, rfl⟩) (Nat.le_of_ble_eq_true rfl) (Nat.le_of_ble_eq_true rfl) dX11_lies_8
theorem dX11_later_0 : decode cX11_later 0 = .ok (.aload_n 0, 1) := by decide +kernel
theorem dX11_later_1 : decode cX11_later 1 = .ok (.invokevirtual 204, 3) := by decide +kernel
theorem dX11_later_4 : decode cX11_later 4 = .ok (.ifCond .eq 13, 3) := by decide +kernel
theorem dX11_later_17 : decode cX11_later 17 = .ok (.iconst (-1), 1) := by decide +kernel
theorem dX11_later_18 : decode cX11_later 18 = .ok (.ireturn, 1) := by decide +kernel
theorem w_4_131 : (Cond.code yX11_later cX11_later 3 (some .int)) ∈ wsL_law := sk_mem (ck_4 _ (List.mem_of_getElem? (i := 131) rfl)) rfl
set_option maxHeartbeats 4000000 in
set_option maxRecDepth 100000 in
theorem c_x_later (l : Launch) (D : va_G) (cI cJ cC cZ cS : ClassId) (x0 : Nat) (q : Nat → Nat) (n : Int32)  : skM l yX11_later cX11_later 3 (some .int) 1 20 0 0 D (skT cI cJ cC cZ cS) [.ref x0, .int n] [(x0, .inr (11, [.ref (q 0), .ref (q 1), .ref (q 2), .ref (q 3), .ref (q 4), .ref (q 5), .ref (q 6), .ref (q 7), .ref (q 8), .ref (q 9), .ref (q 10), .ref (q 11), .ref (q 12), .ref (q 13), .ref (q 14), .int 0, .ref (q 16), .long 1])), (q 7, .inr (7, [.ref (q 33), .ref (q 34), .int 0, .int 0, .int 0, .int 0, .int 0]))] (skI D (skT cI cJ cC cZ cS) (fun (r : Int32) (u : va_W) => r = -1 ∧ u = [])) := by
  refine skM_of (by decide) (Nat.le_of_ble_eq_true rfl) ?_
  intro p e s m below meth c A ls E hP hD hl
  obtain ⟨hx, hb, hr, hml, hlocks, hin, hown, hts, hK, hA⟩ := E
  have hown : s.vm.findClass RX11 = some m.cls := hown
  have hS : va_S A s.heap s.heap [] := va_S.rf
  have hl : lv_has ls 3 [(0, .ref x0), (1, .int n)] := hl
  refine lv_aload_n hx hb dX11_later_0 rfl (lv_at hl 0 rfl) ?_
  refine sk_Vi (q0 := 0) (n := 0) (rest := []) (wr := []) ⟨hx, hb, hml, hown, hts⟩ hl.1 (c_x_isLocked l D cI cJ cC cZ cS x0 q) w_4_39 w_4_41 w_0_18 w_1_1 w_4_42 (by decide +kernel) ⟨⟨(Nat.le_of_ble_eq_true rfl), (Nat.le_of_ble_eq_true rfl)⟩, (Nat.le_of_ble_eq_true rfl), (Nat.le_of_ble_eq_true rfl)⟩ hK hP hD hS hA [0, 1] [] rfl rfl (by decide) (by decide) (by decide) rfl rfl rfl rfl (Nat.le_of_ble_eq_true rfl) dX11_later_1 (fun r_1 u H locs hw hP hD hS => ?_)
  obtain ⟨rfl, rfl⟩ := hw
  have hP : va_P D vwCl [(x0, .inr (11, [.ref (q 0), .ref (q 1), .ref (q 2), .ref (q 3), .ref (q 4), .ref (q 5), .ref (q 6), .ref (q 7), .ref (q 8), .ref (q 9), .ref (q 10), .ref (q 11), .ref (q 12), .ref (q 13), .ref (q 14), .int 0, .ref (q 16), .long 1])), (q 7, .inr (7, [.ref (q 33), .ref (q 34), .int 0, .int 0, .int 0, .int 0, .int 0]))] H := hP
  have hD : va_D A [(x0, .inr (11, [.ref (q 0), .ref (q 1), .ref (q 2), .ref (q 3), .ref (q 4), .ref (q 5), .ref (q 6), .ref (q 7), .ref (q 8), .ref (q 9), .ref (q 10), .ref (q 11), .ref (q 12), .ref (q 13), .ref (q 14), .int 0, .ref (q 16), .long 1])), (q 7, .inr (7, [.ref (q 33), .ref (q 34), .int 0, .int 0, .int 0, .int 0, .int 0]))] := hD
  refine W.widen (k := 0) (n := 0) (Nat.le_of_ble_eq_true rfl) (Nat.le_of_ble_eq_true rfl) ?_
  refine lv_if_eq (tgt := 17) hx hb dX11_later_4 (by decide) (fun c_2 => ?_) (fun c => absurd c (by decide))
  refine lv_iconst (v := (-1)) hx hb dX11_later_17 (by decide) ?_
  have hP := hP.sub (ws' := []) [] rfl
  have hD := hD.sub (ws' := []) [] (by decide) rfl
  exact sk_iret hx hb hr rfl hlocks hK hP hD hS (⟨rfl, rfl⟩) (Nat.le_of_ble_eq_true rfl) (Nat.le_of_ble_eq_true rfl) dX11_later_18
theorem dX11_ring_0 : decode cX11_ring 0 = .ok (.aload_n 0, 1) := by decide +kernel
theorem dX11_ring_1 : decode cX11_ring 1 = .ok (.invokevirtual 204, 3) := by decide +kernel
theorem dX11_ring_4 : decode cX11_ring 4 = .ok (.ifCond .ne 5, 3) := by decide +kernel
theorem dX11_ring_7 : decode cX11_ring 7 = .ok (.iconst (-1), 1) := by decide +kernel
theorem dX11_ring_8 : decode cX11_ring 8 = .ok (.ireturn, 1) := by decide +kernel
theorem w_4_143 : (Cond.code yX11_ring cX11_ring 2 (some .int)) ∈ wsL_law := sk_mem (ck_4 _ (List.mem_of_getElem? (i := 143) rfl)) rfl
set_option maxHeartbeats 4000000 in
set_option maxRecDepth 100000 in
theorem c_x_ring (l : Launch) (D : va_G) (cI cJ cC cZ cS : ClassId) (x0 : Nat) (q : Nat → Nat)  : skM l yX11_ring cX11_ring 2 (some .int) 1 20 0 0 D (skT cI cJ cC cZ cS) [.ref x0] [(x0, .inr (11, [.ref (q 0), .ref (q 1), .ref (q 2), .ref (q 3), .ref (q 4), .ref (q 5), .ref (q 6), .ref (q 7), .ref (q 8), .ref (q 9), .ref (q 10), .ref (q 11), .ref (q 12), .ref (q 13), .ref (q 14), .int 0, .ref (q 16), .long 1])), (q 7, .inr (7, [.ref (q 33), .ref (q 34), .int 0, .int 0, .int 0, .int 0, .int 0]))] (skI D (skT cI cJ cC cZ cS) (fun (r : Int32) (u : va_W) => r = -1 ∧ u = [])) := by
  refine skM_of (by decide) (Nat.le_of_ble_eq_true rfl) ?_
  intro p e s m below meth c A ls E hP hD hl
  obtain ⟨hx, hb, hr, hml, hlocks, hin, hown, hts, hK, hA⟩ := E
  have hown : s.vm.findClass RX11 = some m.cls := hown
  have hS : va_S A s.heap s.heap [] := va_S.rf
  have hl : lv_has ls 2 [(0, .ref x0)] := hl
  refine lv_aload_n hx hb dX11_ring_0 rfl (lv_at hl 0 rfl) ?_
  refine sk_Vi (q0 := 0) (n := 0) (rest := []) (wr := []) ⟨hx, hb, hml, hown, hts⟩ hl.1 (c_x_isLocked l D cI cJ cC cZ cS x0 q) w_4_39 w_4_41 w_0_18 w_1_1 w_4_42 (by decide +kernel) ⟨⟨(Nat.le_of_ble_eq_true rfl), (Nat.le_of_ble_eq_true rfl)⟩, (Nat.le_of_ble_eq_true rfl), (Nat.le_of_ble_eq_true rfl)⟩ hK hP hD hS hA [0, 1] [] rfl rfl (by decide) (by decide) (by decide) rfl rfl rfl rfl (Nat.le_of_ble_eq_true rfl) dX11_ring_1 (fun r_1 u H locs hw hP hD hS => ?_)
  obtain ⟨rfl, rfl⟩ := hw
  have hP : va_P D vwCl [(x0, .inr (11, [.ref (q 0), .ref (q 1), .ref (q 2), .ref (q 3), .ref (q 4), .ref (q 5), .ref (q 6), .ref (q 7), .ref (q 8), .ref (q 9), .ref (q 10), .ref (q 11), .ref (q 12), .ref (q 13), .ref (q 14), .int 0, .ref (q 16), .long 1])), (q 7, .inr (7, [.ref (q 33), .ref (q 34), .int 0, .int 0, .int 0, .int 0, .int 0]))] H := hP
  have hD : va_D A [(x0, .inr (11, [.ref (q 0), .ref (q 1), .ref (q 2), .ref (q 3), .ref (q 4), .ref (q 5), .ref (q 6), .ref (q 7), .ref (q 8), .ref (q 9), .ref (q 10), .ref (q 11), .ref (q 12), .ref (q 13), .ref (q 14), .int 0, .ref (q 16), .long 1])), (q 7, .inr (7, [.ref (q 33), .ref (q 34), .int 0, .int 0, .int 0, .int 0, .int 0]))] := hD
  refine W.widen (k := 0) (n := 0) (Nat.le_of_ble_eq_true rfl) (Nat.le_of_ble_eq_true rfl) ?_
  refine lv_if_ne (tgt := 9) hx hb dX11_ring_4 (by decide) (fun c => absurd c (by decide)) (fun c_2 => ?_)
  refine lv_iconst (v := (-1)) hx hb dX11_ring_7 (by decide) ?_
  have hP := hP.sub (ws' := []) [] rfl
  have hD := hD.sub (ws' := []) [] (by decide) rfl
  exact sk_iret hx hb hr rfl hlocks hK hP hD hS (⟨rfl, rfl⟩) (Nat.le_of_ble_eq_true rfl) (Nat.le_of_ble_eq_true rfl) dX11_ring_8
theorem dX11_frees_0 : decode cX11_frees 0 = .ok (.aload_n 0, 1) := by decide +kernel
theorem dX11_frees_1 : decode cX11_frees 1 = .ok (.iload_n 1, 1) := by decide +kernel
theorem dX11_frees_2 : decode cX11_frees 2 = .ok (.invokevirtual 170, 3) := by decide +kernel
theorem dX11_frees_5 : decode cX11_frees 5 = .ok (.ifCond .eq 12, 3) := by decide +kernel
theorem dX11_frees_17 : decode cX11_frees 17 = .ok (.iconst (-1), 1) := by decide +kernel
theorem dX11_frees_18 : decode cX11_frees 18 = .ok (.ireturn, 1) := by decide +kernel
theorem w_4_147 : (Cond.code yX11_frees cX11_frees 9 (some .int)) ∈ wsL_law := sk_mem (ck_4 _ (List.mem_of_getElem? (i := 147) rfl)) rfl
set_option maxHeartbeats 4000000 in
set_option maxRecDepth 100000 in
theorem c_x_frees (l : Launch) (D : va_G) (cI cJ cC cZ cS : ClassId) (x0 : Nat) (q : Nat → Nat) (d : Int32) (w : Int32)  : skM l yX11_frees cX11_frees 9 (some .int) 1 21 0 0 D (skT cI cJ cC cZ cS) [.ref x0, .int d, .int w] [(x0, .inr (11, [.ref (q 0), .ref (q 1), .ref (q 2), .ref (q 3), .ref (q 4), .ref (q 5), .ref (q 6), .ref (q 7), .ref (q 8), .ref (q 9), .ref (q 10), .ref (q 11), .ref (q 12), .ref (q 13), .ref (q 14), .int 0, .ref (q 16), .long 1])), (q 7, .inr (7, [.ref (q 33), .ref (q 34), .int 0, .int 0, .int 0, .int 0, .int 0]))] (skI D (skT cI cJ cC cZ cS) (fun (r : Int32) (u : va_W) => r = -1 ∧ u = [])) := by
  refine skM_of (by decide) (Nat.le_of_ble_eq_true rfl) ?_
  intro p e s m below meth c A ls E hP hD hl
  obtain ⟨hx, hb, hr, hml, hlocks, hin, hown, hts, hK, hA⟩ := E
  have hown : s.vm.findClass RX11 = some m.cls := hown
  have hS : va_S A s.heap s.heap [] := va_S.rf
  have hl : lv_has ls 9 [(0, .ref x0), (1, .int d), (2, .int w)] := hl
  refine lv_aload_n hx hb dX11_frees_0 rfl (lv_at hl 0 rfl) ?_
  refine lv_iload_n hx hb dX11_frees_1 rfl (lv_at hl 1 rfl) ?_
  refine sk_Vi (q0 := 0) (n := 1) (rest := []) (wr := []) ⟨hx, hb, hml, hown, hts⟩ hl.1 (c_x_isDay l D cI cJ cC cZ cS x0 q d) w_3_190 w_3_192 w_0_14 w_1_1 w_3_193 (by decide +kernel) ⟨⟨(Nat.le_of_ble_eq_true rfl), (Nat.le_of_ble_eq_true rfl)⟩, (Nat.le_of_ble_eq_true rfl), (Nat.le_of_ble_eq_true rfl)⟩ hK hP hD hS hA [0, 1] [] rfl rfl (by decide) (by decide) (by decide) rfl rfl rfl rfl (Nat.le_of_ble_eq_true rfl) dX11_frees_2 (fun r_1 u H locs hw hP hD hS => ?_)
  obtain ⟨rfl, rfl⟩ := hw
  have hP : va_P D vwCl [(x0, .inr (11, [.ref (q 0), .ref (q 1), .ref (q 2), .ref (q 3), .ref (q 4), .ref (q 5), .ref (q 6), .ref (q 7), .ref (q 8), .ref (q 9), .ref (q 10), .ref (q 11), .ref (q 12), .ref (q 13), .ref (q 14), .int 0, .ref (q 16), .long 1])), (q 7, .inr (7, [.ref (q 33), .ref (q 34), .int 0, .int 0, .int 0, .int 0, .int 0]))] H := hP
  have hD : va_D A [(x0, .inr (11, [.ref (q 0), .ref (q 1), .ref (q 2), .ref (q 3), .ref (q 4), .ref (q 5), .ref (q 6), .ref (q 7), .ref (q 8), .ref (q 9), .ref (q 10), .ref (q 11), .ref (q 12), .ref (q 13), .ref (q 14), .int 0, .ref (q 16), .long 1])), (q 7, .inr (7, [.ref (q 33), .ref (q 34), .int 0, .int 0, .int 0, .int 0, .int 0]))] := hD
  refine W.widen (k := 0) (n := 0) (Nat.le_of_ble_eq_true rfl) (Nat.le_of_ble_eq_true rfl) ?_
  refine lv_if_eq (tgt := 17) hx hb dX11_frees_5 (by decide) (fun c_2 => ?_) (fun c => absurd c (by decide))
  refine lv_iconst (v := (-1)) hx hb dX11_frees_17 (by decide) ?_
  have hP := hP.sub (ws' := []) [] rfl
  have hD := hD.sub (ws' := []) [] (by decide) rfl
  exact sk_iret hx hb hr rfl hlocks hK hP hD hS (⟨rfl, rfl⟩) (Nat.le_of_ble_eq_true rfl) (Nat.le_of_ble_eq_true rfl) dX11_frees_18
theorem dX11_pay_0 : decode cX11_pay 0 = .ok (.aload_n 0, 1) := by decide +kernel
theorem dX11_pay_1 : decode cX11_pay 1 = .ok (.invokevirtual 204, 3) := by decide +kernel
theorem dX11_pay_4 : decode cX11_pay 4 = .ok (.ifCond .eq 14, 3) := by decide +kernel
theorem dX11_pay_18 : decode cX11_pay 18 = .ok (.ldc2_w 198, 3) := by decide +kernel
theorem dX11_pay_21 : decode cX11_pay 21 = .ok (.lreturn, 1) := by decide +kernel
theorem w_4_155 : (Cond.code yX11_pay cX11_pay 1 (some .long)) ∈ wsL_law := sk_mem (ck_4 _ (List.mem_of_getElem? (i := 155) rfl)) rfl
set_option maxHeartbeats 4000000 in
set_option maxRecDepth 100000 in
theorem c_x_pay (l : Launch) (D : va_G) (cI cJ cC cZ cS : ClassId) (x0 : Nat) (q : Nat → Nat)  : skM l yX11_pay cX11_pay 1 (some .long) 1 20 0 0 D (skT cI cJ cC cZ cS) [.ref x0] [(x0, .inr (11, [.ref (q 0), .ref (q 1), .ref (q 2), .ref (q 3), .ref (q 4), .ref (q 5), .ref (q 6), .ref (q 7), .ref (q 8), .ref (q 9), .ref (q 10), .ref (q 11), .ref (q 12), .ref (q 13), .ref (q 14), .int 0, .ref (q 16), .long 1])), (q 7, .inr (7, [.ref (q 33), .ref (q 34), .int 0, .int 0, .int 0, .int 0, .int 0]))] (skL D (skT cI cJ cC cZ cS) (fun (r : Int64) (u : va_W) => r = -1000000000000000 ∧ u = [])) := by
  refine skM_of (by decide) (Nat.le_of_ble_eq_true rfl) ?_
  intro p e s m below meth c A ls E hP hD hl
  obtain ⟨hx, hb, hr, hml, hlocks, hin, hown, hts, hK, hA⟩ := E
  have hown : s.vm.findClass RX11 = some m.cls := hown
  have hS : va_S A s.heap s.heap [] := va_S.rf
  have hl : lv_has ls 1 [(0, .ref x0)] := hl
  refine lv_aload_n hx hb dX11_pay_0 rfl (lv_at hl 0 rfl) ?_
  refine sk_Vi (q0 := 0) (n := 0) (rest := []) (wr := []) ⟨hx, hb, hml, hown, hts⟩ hl.1 (c_x_isLocked l D cI cJ cC cZ cS x0 q) w_4_39 w_4_41 w_0_18 w_1_1 w_4_42 (by decide +kernel) ⟨⟨(Nat.le_of_ble_eq_true rfl), (Nat.le_of_ble_eq_true rfl)⟩, (Nat.le_of_ble_eq_true rfl), (Nat.le_of_ble_eq_true rfl)⟩ hK hP hD hS hA [0, 1] [] rfl rfl (by decide) (by decide) (by decide) rfl rfl rfl rfl (Nat.le_of_ble_eq_true rfl) dX11_pay_1 (fun r_1 u H locs hw hP hD hS => ?_)
  obtain ⟨rfl, rfl⟩ := hw
  have hP : va_P D vwCl [(x0, .inr (11, [.ref (q 0), .ref (q 1), .ref (q 2), .ref (q 3), .ref (q 4), .ref (q 5), .ref (q 6), .ref (q 7), .ref (q 8), .ref (q 9), .ref (q 10), .ref (q 11), .ref (q 12), .ref (q 13), .ref (q 14), .int 0, .ref (q 16), .long 1])), (q 7, .inr (7, [.ref (q 33), .ref (q 34), .int 0, .int 0, .int 0, .int 0, .int 0]))] H := hP
  have hD : va_D A [(x0, .inr (11, [.ref (q 0), .ref (q 1), .ref (q 2), .ref (q 3), .ref (q 4), .ref (q 5), .ref (q 6), .ref (q 7), .ref (q 8), .ref (q 9), .ref (q 10), .ref (q 11), .ref (q 12), .ref (q 13), .ref (q 14), .int 0, .ref (q 16), .long 1])), (q 7, .inr (7, [.ref (q 33), .ref (q 34), .int 0, .int 0, .int 0, .int 0, .int 0]))] := hD
  refine W.widen (k := 0) (n := 0) (Nat.le_of_ble_eq_true rfl) (Nat.le_of_ble_eq_true rfl) ?_
  refine lv_if_eq (tgt := 18) hx hb dX11_pay_4 (by decide) (fun c_2 => ?_) (fun c => absurd c (by decide))
  refine lv_ldc2 (v := (-1000000000000000)) hx hb hown (hts _ w_4_29) dX11_pay_18 ?_
  have hP := hP.sub (ws' := []) [] rfl
  have hD := hD.sub (ws' := []) [] (by decide) rfl
  exact sk_lret hx hb hr hlocks hK hP hD hS (⟨rfl, rfl⟩) (Nat.le_of_ble_eq_true rfl) (Nat.le_of_ble_eq_true rfl) dX11_pay_21
theorem dX11_paid_0 : decode cX11_paid 0 = .ok (.aload_n 0, 1) := by decide +kernel
theorem dX11_paid_1 : decode cX11_paid 1 = .ok (.iload_n 1, 1) := by decide +kernel
theorem dX11_paid_2 : decode cX11_paid 2 = .ok (.invokevirtual 170, 3) := by decide +kernel
theorem dX11_paid_5 : decode cX11_paid 5 = .ok (.ifCond .eq 14, 3) := by decide +kernel
theorem dX11_paid_19 : decode cX11_paid 19 = .ok (.iconst (-1), 1) := by decide +kernel
theorem dX11_paid_20 : decode cX11_paid 20 = .ok (.ireturn, 1) := by decide +kernel
theorem w_4_169 : (Cond.code yX11_paid cX11_paid 2 (some .int)) ∈ wsL_law := sk_mem (ck_4 _ (List.mem_of_getElem? (i := 169) rfl)) rfl
set_option maxHeartbeats 4000000 in
set_option maxRecDepth 100000 in
theorem c_x_paid (l : Launch) (D : va_G) (cI cJ cC cZ cS : ClassId) (x0 : Nat) (q : Nat → Nat) (d : Int32)  : skM l yX11_paid cX11_paid 2 (some .int) 1 21 0 0 D (skT cI cJ cC cZ cS) [.ref x0, .int d] [(x0, .inr (11, [.ref (q 0), .ref (q 1), .ref (q 2), .ref (q 3), .ref (q 4), .ref (q 5), .ref (q 6), .ref (q 7), .ref (q 8), .ref (q 9), .ref (q 10), .ref (q 11), .ref (q 12), .ref (q 13), .ref (q 14), .int 0, .ref (q 16), .long 1])), (q 7, .inr (7, [.ref (q 33), .ref (q 34), .int 0, .int 0, .int 0, .int 0, .int 0]))] (skI D (skT cI cJ cC cZ cS) (fun (r : Int32) (u : va_W) => r = -1 ∧ u = [])) := by
  refine skM_of (by decide) (Nat.le_of_ble_eq_true rfl) ?_
  intro p e s m below meth c A ls E hP hD hl
  obtain ⟨hx, hb, hr, hml, hlocks, hin, hown, hts, hK, hA⟩ := E
  have hown : s.vm.findClass RX11 = some m.cls := hown
  have hS : va_S A s.heap s.heap [] := va_S.rf
  have hl : lv_has ls 2 [(0, .ref x0), (1, .int d)] := hl
  refine lv_aload_n hx hb dX11_paid_0 rfl (lv_at hl 0 rfl) ?_
  refine lv_iload_n hx hb dX11_paid_1 rfl (lv_at hl 1 rfl) ?_
  refine sk_Vi (q0 := 0) (n := 1) (rest := []) (wr := []) ⟨hx, hb, hml, hown, hts⟩ hl.1 (c_x_isDay l D cI cJ cC cZ cS x0 q d) w_3_190 w_3_192 w_0_14 w_1_1 w_3_193 (by decide +kernel) ⟨⟨(Nat.le_of_ble_eq_true rfl), (Nat.le_of_ble_eq_true rfl)⟩, (Nat.le_of_ble_eq_true rfl), (Nat.le_of_ble_eq_true rfl)⟩ hK hP hD hS hA [0, 1] [] rfl rfl (by decide) (by decide) (by decide) rfl rfl rfl rfl (Nat.le_of_ble_eq_true rfl) dX11_paid_2 (fun r_1 u H locs hw hP hD hS => ?_)
  obtain ⟨rfl, rfl⟩ := hw
  have hP : va_P D vwCl [(x0, .inr (11, [.ref (q 0), .ref (q 1), .ref (q 2), .ref (q 3), .ref (q 4), .ref (q 5), .ref (q 6), .ref (q 7), .ref (q 8), .ref (q 9), .ref (q 10), .ref (q 11), .ref (q 12), .ref (q 13), .ref (q 14), .int 0, .ref (q 16), .long 1])), (q 7, .inr (7, [.ref (q 33), .ref (q 34), .int 0, .int 0, .int 0, .int 0, .int 0]))] H := hP
  have hD : va_D A [(x0, .inr (11, [.ref (q 0), .ref (q 1), .ref (q 2), .ref (q 3), .ref (q 4), .ref (q 5), .ref (q 6), .ref (q 7), .ref (q 8), .ref (q 9), .ref (q 10), .ref (q 11), .ref (q 12), .ref (q 13), .ref (q 14), .int 0, .ref (q 16), .long 1])), (q 7, .inr (7, [.ref (q 33), .ref (q 34), .int 0, .int 0, .int 0, .int 0, .int 0]))] := hD
  refine W.widen (k := 0) (n := 0) (Nat.le_of_ble_eq_true rfl) (Nat.le_of_ble_eq_true rfl) ?_
  refine lv_if_eq (tgt := 19) hx hb dX11_paid_5 (by decide) (fun c_2 => ?_) (fun c => absurd c (by decide))
  refine lv_iconst (v := (-1)) hx hb dX11_paid_19 (by decide) ?_
  have hP := hP.sub (ws' := []) [] rfl
  have hD := hD.sub (ws' := []) [] (by decide) rfl
  exact sk_iret hx hb hr rfl hlocks hK hP hD hS (⟨rfl, rfl⟩) (Nat.le_of_ble_eq_true rfl) (Nat.le_of_ble_eq_true rfl) dX11_paid_20
theorem dX11_rest_0 : decode cX11_rest 0 = .ok (.aload_n 0, 1) := by decide +kernel
theorem dX11_rest_1 : decode cX11_rest 1 = .ok (.iconst 2, 1) := by decide +kernel
theorem dX11_rest_2 : decode cX11_rest 2 = .ok (.iconst 0, 1) := by decide +kernel
theorem dX11_rest_3 : decode cX11_rest 3 = .ok (.iconst 0, 1) := by decide +kernel
theorem dX11_rest_4 : decode cX11_rest 4 = .ok (.invokevirtual 226, 3) := by decide +kernel
theorem dX11_rest_7 : decode cX11_rest 7 = .ok (.ireturn, 1) := by decide +kernel
theorem w_4_177 : (Cond.code yX11_rest cX11_rest 1 (some .int)) ∈ wsL_law := sk_mem (ck_4 _ (List.mem_of_getElem? (i := 177) rfl)) rfl
set_option maxHeartbeats 4000000 in
set_option maxRecDepth 100000 in
theorem c_x_rest (l : Launch) (D : va_G) (cI cJ cC cZ cS : ClassId) (x0 : Nat) (q : Nat → Nat)  : skM l yX11_rest cX11_rest 1 (some .int) 2 46 0 0 D (skT cI cJ cC cZ cS) [.ref x0] [(x0, .inr (11, [.ref (q 0), .ref (q 1), .ref (q 2), .ref (q 3), .ref (q 4), .ref (q 5), .ref (q 6), .ref (q 7), .ref (q 8), .ref (q 9), .ref (q 10), .ref (q 11), .ref (q 12), .ref (q 13), .ref (q 14), .int 0, .ref (q 16), .long 1])), (q 7, .inr (7, [.ref (q 33), .ref (q 34), .int 0, .int 0, .int 0, .int 0, .int 0]))] (skI D (skT cI cJ cC cZ cS) (fun (r : Int32) (u : va_W) => r = -1 ∧ u = [])) := by
  refine skM_of (by decide) (Nat.le_of_ble_eq_true rfl) ?_
  intro p e s m below meth c A ls E hP hD hl
  obtain ⟨hx, hb, hr, hml, hlocks, hin, hown, hts, hK, hA⟩ := E
  have hown : s.vm.findClass RX11 = some m.cls := hown
  have hS : va_S A s.heap s.heap [] := va_S.rf
  have hl : lv_has ls 1 [(0, .ref x0)] := hl
  refine lv_aload_n hx hb dX11_rest_0 rfl (lv_at hl 0 rfl) ?_
  refine lv_iconst (v := 2) hx hb dX11_rest_1 (by decide) ?_
  refine lv_iconst (v := 0) hx hb dX11_rest_2 (by decide) ?_
  refine lv_iconst (v := 0) hx hb dX11_rest_3 (by decide) ?_
  refine sk_Vi (q0 := 0) (n := 3) (rest := []) (wr := []) ⟨hx, hb, hml, hown, hts⟩ hl.1 (c_x_fewest l D cI cJ cC cZ cS x0 q 2 0 0) w_4_96 w_4_98 w_0_22 w_1_1 w_4_99 (by decide +kernel) ⟨⟨(Nat.le_of_ble_eq_true rfl), (Nat.le_of_ble_eq_true rfl)⟩, (Nat.le_of_ble_eq_true rfl), (Nat.le_of_ble_eq_true rfl)⟩ hK hP hD hS hA [0, 1] [] rfl rfl (by decide) (by decide) (by decide) rfl rfl rfl rfl (Nat.le_of_ble_eq_true rfl) dX11_rest_4 (fun r_1 u H locs hw hP hD hS => ?_)
  obtain ⟨rfl, rfl⟩ := hw
  have hP : va_P D vwCl [(x0, .inr (11, [.ref (q 0), .ref (q 1), .ref (q 2), .ref (q 3), .ref (q 4), .ref (q 5), .ref (q 6), .ref (q 7), .ref (q 8), .ref (q 9), .ref (q 10), .ref (q 11), .ref (q 12), .ref (q 13), .ref (q 14), .int 0, .ref (q 16), .long 1])), (q 7, .inr (7, [.ref (q 33), .ref (q 34), .int 0, .int 0, .int 0, .int 0, .int 0]))] H := hP
  have hD : va_D A [(x0, .inr (11, [.ref (q 0), .ref (q 1), .ref (q 2), .ref (q 3), .ref (q 4), .ref (q 5), .ref (q 6), .ref (q 7), .ref (q 8), .ref (q 9), .ref (q 10), .ref (q 11), .ref (q 12), .ref (q 13), .ref (q 14), .int 0, .ref (q 16), .long 1])), (q 7, .inr (7, [.ref (q 33), .ref (q 34), .int 0, .int 0, .int 0, .int 0, .int 0]))] := hD
  refine W.widen (k := 0) (n := 0) (Nat.le_of_ble_eq_true rfl) (Nat.le_of_ble_eq_true rfl) ?_
  have hP := hP.sub (ws' := []) [] rfl
  have hD := hD.sub (ws' := []) [] (by decide) rfl
  exact sk_iret hx hb hr rfl hlocks hK hP hD hS (⟨rfl, rfl⟩) (Nat.le_of_ble_eq_true rfl) (Nat.le_of_ble_eq_true rfl) dX11_rest_7
theorem dX11_unlike_0 : decode cX11_unlike 0 = .ok (.aload_n 0, 1) := by decide +kernel
theorem dX11_unlike_1 : decode cX11_unlike 1 = .ok (.invokevirtual 204, 3) := by decide +kernel
theorem dX11_unlike_4 : decode cX11_unlike 4 = .ok (.ifCond .eq 27, 3) := by decide +kernel
theorem dX11_unlike_31 : decode cX11_unlike 31 = .ok (.iconst (-1), 1) := by decide +kernel
theorem dX11_unlike_32 : decode cX11_unlike 32 = .ok (.ireturn, 1) := by decide +kernel
theorem w_4_181 : (Cond.code yX11_unlike cX11_unlike 5 (some .int)) ∈ wsL_law := sk_mem (ck_4 _ (List.mem_of_getElem? (i := 181) rfl)) rfl
set_option maxHeartbeats 4000000 in
set_option maxRecDepth 100000 in
theorem c_x_unlike (l : Launch) (D : va_G) (cI cJ cC cZ cS : ClassId) (x0 : Nat) (q : Nat → Nat) (k : Int32) (w : Int32)  : skM l yX11_unlike cX11_unlike 5 (some .int) 1 20 0 0 D (skT cI cJ cC cZ cS) [.ref x0, .int k, .int w] [(x0, .inr (11, [.ref (q 0), .ref (q 1), .ref (q 2), .ref (q 3), .ref (q 4), .ref (q 5), .ref (q 6), .ref (q 7), .ref (q 8), .ref (q 9), .ref (q 10), .ref (q 11), .ref (q 12), .ref (q 13), .ref (q 14), .int 0, .ref (q 16), .long 1])), (q 7, .inr (7, [.ref (q 33), .ref (q 34), .int 0, .int 0, .int 0, .int 0, .int 0]))] (skI D (skT cI cJ cC cZ cS) (fun (r : Int32) (u : va_W) => r = -1 ∧ u = [])) := by
  refine skM_of (by decide) (Nat.le_of_ble_eq_true rfl) ?_
  intro p e s m below meth c A ls E hP hD hl
  obtain ⟨hx, hb, hr, hml, hlocks, hin, hown, hts, hK, hA⟩ := E
  have hown : s.vm.findClass RX11 = some m.cls := hown
  have hS : va_S A s.heap s.heap [] := va_S.rf
  have hl : lv_has ls 5 [(0, .ref x0), (1, .int k), (2, .int w)] := hl
  refine lv_aload_n hx hb dX11_unlike_0 rfl (lv_at hl 0 rfl) ?_
  refine sk_Vi (q0 := 0) (n := 0) (rest := []) (wr := []) ⟨hx, hb, hml, hown, hts⟩ hl.1 (c_x_isLocked l D cI cJ cC cZ cS x0 q) w_4_39 w_4_41 w_0_18 w_1_1 w_4_42 (by decide +kernel) ⟨⟨(Nat.le_of_ble_eq_true rfl), (Nat.le_of_ble_eq_true rfl)⟩, (Nat.le_of_ble_eq_true rfl), (Nat.le_of_ble_eq_true rfl)⟩ hK hP hD hS hA [0, 1] [] rfl rfl (by decide) (by decide) (by decide) rfl rfl rfl rfl (Nat.le_of_ble_eq_true rfl) dX11_unlike_1 (fun r_1 u H locs hw hP hD hS => ?_)
  obtain ⟨rfl, rfl⟩ := hw
  have hP : va_P D vwCl [(x0, .inr (11, [.ref (q 0), .ref (q 1), .ref (q 2), .ref (q 3), .ref (q 4), .ref (q 5), .ref (q 6), .ref (q 7), .ref (q 8), .ref (q 9), .ref (q 10), .ref (q 11), .ref (q 12), .ref (q 13), .ref (q 14), .int 0, .ref (q 16), .long 1])), (q 7, .inr (7, [.ref (q 33), .ref (q 34), .int 0, .int 0, .int 0, .int 0, .int 0]))] H := hP
  have hD : va_D A [(x0, .inr (11, [.ref (q 0), .ref (q 1), .ref (q 2), .ref (q 3), .ref (q 4), .ref (q 5), .ref (q 6), .ref (q 7), .ref (q 8), .ref (q 9), .ref (q 10), .ref (q 11), .ref (q 12), .ref (q 13), .ref (q 14), .int 0, .ref (q 16), .long 1])), (q 7, .inr (7, [.ref (q 33), .ref (q 34), .int 0, .int 0, .int 0, .int 0, .int 0]))] := hD
  refine W.widen (k := 0) (n := 0) (Nat.le_of_ble_eq_true rfl) (Nat.le_of_ble_eq_true rfl) ?_
  refine lv_if_eq (tgt := 31) hx hb dX11_unlike_4 (by decide) (fun c_2 => ?_) (fun c => absurd c (by decide))
  refine lv_iconst (v := (-1)) hx hb dX11_unlike_31 (by decide) ?_
  have hP := hP.sub (ws' := []) [] rfl
  have hD := hD.sub (ws' := []) [] (by decide) rfl
  exact sk_iret hx hb hr rfl hlocks hK hP hD hS (⟨rfl, rfl⟩) (Nat.le_of_ble_eq_true rfl) (Nat.le_of_ble_eq_true rfl) dX11_unlike_32
theorem dX11_known_0 : decode cX11_known 0 = .ok (.aload_n 0, 1) := by decide +kernel
theorem dX11_known_1 : decode cX11_known 1 = .ok (.iload_n 3, 1) := by decide +kernel
theorem dX11_known_2 : decode cX11_known 2 = .ok (.invokevirtual 170, 3) := by decide +kernel
theorem dX11_known_5 : decode cX11_known 5 = .ok (.ifCond .eq 12, 3) := by decide +kernel
theorem dX11_known_17 : decode cX11_known 17 = .ok (.iconst (-1), 1) := by decide +kernel
theorem dX11_known_18 : decode cX11_known 18 = .ok (.ireturn, 1) := by decide +kernel
theorem w_4_185 : (Cond.code yX11_known cX11_known 4 (some .int)) ∈ wsL_law := sk_mem (ck_4 _ (List.mem_of_getElem? (i := 185) rfl)) rfl
set_option maxHeartbeats 4000000 in
set_option maxRecDepth 100000 in
theorem c_x_known (l : Launch) (D : va_G) (cI cJ cC cZ cS : ClassId) (x0 : Nat) (q : Nat → Nat) (d : Int32) (w : Int32) (o : Int32)  : skM l yX11_known cX11_known 4 (some .int) 1 21 0 0 D (skT cI cJ cC cZ cS) [.ref x0, .int d, .int w, .int o] [(x0, .inr (11, [.ref (q 0), .ref (q 1), .ref (q 2), .ref (q 3), .ref (q 4), .ref (q 5), .ref (q 6), .ref (q 7), .ref (q 8), .ref (q 9), .ref (q 10), .ref (q 11), .ref (q 12), .ref (q 13), .ref (q 14), .int 0, .ref (q 16), .long 1])), (q 7, .inr (7, [.ref (q 33), .ref (q 34), .int 0, .int 0, .int 0, .int 0, .int 0]))] (skI D (skT cI cJ cC cZ cS) (fun (r : Int32) (u : va_W) => r = -1 ∧ u = [])) := by
  refine skM_of (by decide) (Nat.le_of_ble_eq_true rfl) ?_
  intro p e s m below meth c A ls E hP hD hl
  obtain ⟨hx, hb, hr, hml, hlocks, hin, hown, hts, hK, hA⟩ := E
  have hown : s.vm.findClass RX11 = some m.cls := hown
  have hS : va_S A s.heap s.heap [] := va_S.rf
  have hl : lv_has ls 4 [(0, .ref x0), (1, .int d), (2, .int w), (3, .int o)] := hl
  refine lv_aload_n hx hb dX11_known_0 rfl (lv_at hl 0 rfl) ?_
  refine lv_iload_n hx hb dX11_known_1 rfl (lv_at hl 3 rfl) ?_
  refine sk_Vi (q0 := 0) (n := 1) (rest := []) (wr := []) ⟨hx, hb, hml, hown, hts⟩ hl.1 (c_x_isDay l D cI cJ cC cZ cS x0 q o) w_3_190 w_3_192 w_0_14 w_1_1 w_3_193 (by decide +kernel) ⟨⟨(Nat.le_of_ble_eq_true rfl), (Nat.le_of_ble_eq_true rfl)⟩, (Nat.le_of_ble_eq_true rfl), (Nat.le_of_ble_eq_true rfl)⟩ hK hP hD hS hA [0, 1] [] rfl rfl (by decide) (by decide) (by decide) rfl rfl rfl rfl (Nat.le_of_ble_eq_true rfl) dX11_known_2 (fun r_1 u H locs hw hP hD hS => ?_)
  obtain ⟨rfl, rfl⟩ := hw
  have hP : va_P D vwCl [(x0, .inr (11, [.ref (q 0), .ref (q 1), .ref (q 2), .ref (q 3), .ref (q 4), .ref (q 5), .ref (q 6), .ref (q 7), .ref (q 8), .ref (q 9), .ref (q 10), .ref (q 11), .ref (q 12), .ref (q 13), .ref (q 14), .int 0, .ref (q 16), .long 1])), (q 7, .inr (7, [.ref (q 33), .ref (q 34), .int 0, .int 0, .int 0, .int 0, .int 0]))] H := hP
  have hD : va_D A [(x0, .inr (11, [.ref (q 0), .ref (q 1), .ref (q 2), .ref (q 3), .ref (q 4), .ref (q 5), .ref (q 6), .ref (q 7), .ref (q 8), .ref (q 9), .ref (q 10), .ref (q 11), .ref (q 12), .ref (q 13), .ref (q 14), .int 0, .ref (q 16), .long 1])), (q 7, .inr (7, [.ref (q 33), .ref (q 34), .int 0, .int 0, .int 0, .int 0, .int 0]))] := hD
  refine W.widen (k := 0) (n := 0) (Nat.le_of_ble_eq_true rfl) (Nat.le_of_ble_eq_true rfl) ?_
  refine lv_if_eq (tgt := 17) hx hb dX11_known_5 (by decide) (fun c_2 => ?_) (fun c => absurd c (by decide))
  refine lv_iconst (v := (-1)) hx hb dX11_known_17 (by decide) ?_
  have hP := hP.sub (ws' := []) [] rfl
  have hD := hD.sub (ws' := []) [] (by decide) rfl
  exact sk_iret hx hb hr rfl hlocks hK hP hD hS (⟨rfl, rfl⟩) (Nat.le_of_ble_eq_true rfl) (Nat.le_of_ble_eq_true rfl) dX11_known_18
theorem dX11_isWordOf_0 : decode cX11_isWordOf 0 = .ok (.aload_n 0, 1) := by decide +kernel
theorem dX11_isWordOf_1 : decode cX11_isWordOf 1 = .ok (.iload_n 1, 1) := by decide +kernel
theorem dX11_isWordOf_2 : decode cX11_isWordOf 2 = .ok (.invokevirtual 170, 3) := by decide +kernel
theorem dX11_isWordOf_5 : decode cX11_isWordOf 5 = .ok (.ifCond .eq 25, 3) := by decide +kernel
theorem dX11_isWordOf_30 : decode cX11_isWordOf 30 = .ok (.iconst 0, 1) := by decide +kernel
theorem dX11_isWordOf_31 : decode cX11_isWordOf 31 = .ok (.ireturn, 1) := by decide +kernel
theorem w_4_189 : (Cond.code yX11_isWordOf cX11_isWordOf 3 (some .boolean)) ∈ wsL_law := sk_mem (ck_4 _ (List.mem_of_getElem? (i := 189) rfl)) rfl
set_option maxHeartbeats 4000000 in
set_option maxRecDepth 100000 in
theorem c_x_isWordOf (l : Launch) (D : va_G) (cI cJ cC cZ cS : ClassId) (x0 : Nat) (q : Nat → Nat) (d : Int32) (w : Int32)  : skM l yX11_isWordOf cX11_isWordOf 3 (some .boolean) 1 21 0 0 D (skT cI cJ cC cZ cS) [.ref x0, .int d, .int w] [(x0, .inr (11, [.ref (q 0), .ref (q 1), .ref (q 2), .ref (q 3), .ref (q 4), .ref (q 5), .ref (q 6), .ref (q 7), .ref (q 8), .ref (q 9), .ref (q 10), .ref (q 11), .ref (q 12), .ref (q 13), .ref (q 14), .int 0, .ref (q 16), .long 1])), (q 7, .inr (7, [.ref (q 33), .ref (q 34), .int 0, .int 0, .int 0, .int 0, .int 0]))] (skI D (skT cI cJ cC cZ cS) (fun (r : Int32) (u : va_W) => r = 0 ∧ u = [(x0, .inr (11, [.ref (q 0), .ref (q 1), .ref (q 2), .ref (q 3), .ref (q 4), .ref (q 5), .ref (q 6), .ref (q 7), .ref (q 8), .ref (q 9), .ref (q 10), .ref (q 11), .ref (q 12), .ref (q 13), .ref (q 14), .int 0, .ref (q 16), .long 1])), (q 7, .inr (7, [.ref (q 33), .ref (q 34), .int 0, .int 0, .int 0, .int 0, .int 0]))])) := by
  refine skM_of (by decide) (Nat.le_of_ble_eq_true rfl) ?_
  intro p e s m below meth c A ls E hP hD hl
  obtain ⟨hx, hb, hr, hml, hlocks, hin, hown, hts, hK, hA⟩ := E
  have hown : s.vm.findClass RX11 = some m.cls := hown
  have hS : va_S A s.heap s.heap [] := va_S.rf
  have hl : lv_has ls 3 [(0, .ref x0), (1, .int d), (2, .int w)] := hl
  refine lv_aload_n hx hb dX11_isWordOf_0 rfl (lv_at hl 0 rfl) ?_
  refine lv_iload_n hx hb dX11_isWordOf_1 rfl (lv_at hl 1 rfl) ?_
  refine sk_Vi (q0 := 0) (n := 1) (rest := []) (wr := []) ⟨hx, hb, hml, hown, hts⟩ hl.1 (c_x_isDay l D cI cJ cC cZ cS x0 q d) w_3_190 w_3_192 w_0_14 w_1_1 w_3_193 (by decide +kernel) ⟨⟨(Nat.le_of_ble_eq_true rfl), (Nat.le_of_ble_eq_true rfl)⟩, (Nat.le_of_ble_eq_true rfl), (Nat.le_of_ble_eq_true rfl)⟩ hK hP hD hS hA [0, 1] [] rfl rfl (by decide) (by decide) (by decide) rfl rfl rfl rfl (Nat.le_of_ble_eq_true rfl) dX11_isWordOf_2 (fun r_1 u H locs hw hP hD hS => ?_)
  obtain ⟨rfl, rfl⟩ := hw
  have hP : va_P D vwCl [(x0, .inr (11, [.ref (q 0), .ref (q 1), .ref (q 2), .ref (q 3), .ref (q 4), .ref (q 5), .ref (q 6), .ref (q 7), .ref (q 8), .ref (q 9), .ref (q 10), .ref (q 11), .ref (q 12), .ref (q 13), .ref (q 14), .int 0, .ref (q 16), .long 1])), (q 7, .inr (7, [.ref (q 33), .ref (q 34), .int 0, .int 0, .int 0, .int 0, .int 0]))] H := hP
  have hD : va_D A [(x0, .inr (11, [.ref (q 0), .ref (q 1), .ref (q 2), .ref (q 3), .ref (q 4), .ref (q 5), .ref (q 6), .ref (q 7), .ref (q 8), .ref (q 9), .ref (q 10), .ref (q 11), .ref (q 12), .ref (q 13), .ref (q 14), .int 0, .ref (q 16), .long 1])), (q 7, .inr (7, [.ref (q 33), .ref (q 34), .int 0, .int 0, .int 0, .int 0, .int 0]))] := hD
  refine W.widen (k := 0) (n := 0) (Nat.le_of_ble_eq_true rfl) (Nat.le_of_ble_eq_true rfl) ?_
  refine lv_if_eq (tgt := 30) hx hb dX11_isWordOf_5 (by decide) (fun c_2 => ?_) (fun c => absurd c (by decide))
  refine lv_iconst (v := 0) hx hb dX11_isWordOf_30 (by decide) ?_
  exact sk_iret hx hb hr rfl hlocks hK hP hD hS (⟨rfl, rfl⟩) (Nat.le_of_ble_eq_true rfl) (Nat.le_of_ble_eq_true rfl) dX11_isWordOf_31
theorem dX11_sure_0 : decode cX11_sure 0 = .ok (.aload_n 0, 1) := by decide +kernel
theorem dX11_sure_1 : decode cX11_sure 1 = .ok (.iload_n 1, 1) := by decide +kernel
theorem dX11_sure_2 : decode cX11_sure 2 = .ok (.iload_n 2, 1) := by decide +kernel
theorem dX11_sure_3 : decode cX11_sure 3 = .ok (.invokevirtual 255, 3) := by decide +kernel
theorem dX11_sure_6 : decode cX11_sure 6 = .ok (.ifCond .eq 12, 3) := by decide +kernel
theorem dX11_sure_18 : decode cX11_sure 18 = .ok (.iconst (-1), 1) := by decide +kernel
theorem dX11_sure_19 : decode cX11_sure 19 = .ok (.ireturn, 1) := by decide +kernel
theorem w_4_186 : (Cond.methodLink RX11 255 yX11_isWordOf) ∈ wsL_law := sk_mem (ck_4 _ (List.mem_of_getElem? (i := 186) rfl)) rfl
theorem w_4_188 : (Cond.instanceMethod yX11_isWordOf) ∈ wsL_law := sk_mem (ck_4 _ (List.mem_of_getElem? (i := 188) rfl)) rfl
theorem w_0_27 : (Cond.selects RX11 yX11_isWordOf yX11_isWordOf) ∈ wsL_law := sk_mem (ck_0 _ (List.mem_of_getElem? (i := 27) rfl)) rfl
theorem w_4_205 : (Cond.code yX11_sure cX11_sure 5 (some .int)) ∈ wsL_law := sk_mem (ck_4 _ (List.mem_of_getElem? (i := 205) rfl)) rfl
set_option maxHeartbeats 4000000 in
set_option maxRecDepth 100000 in
theorem c_x_sure (l : Launch) (D : va_G) (cI cJ cC cZ cS : ClassId) (x0 : Nat) (q : Nat → Nat) (d : Int32) (w : Int32)  : skM l yX11_sure cX11_sure 5 (some .int) 2 43 0 0 D (skT cI cJ cC cZ cS) [.ref x0, .int d, .int w] [(x0, .inr (11, [.ref (q 0), .ref (q 1), .ref (q 2), .ref (q 3), .ref (q 4), .ref (q 5), .ref (q 6), .ref (q 7), .ref (q 8), .ref (q 9), .ref (q 10), .ref (q 11), .ref (q 12), .ref (q 13), .ref (q 14), .int 0, .ref (q 16), .long 1])), (q 7, .inr (7, [.ref (q 33), .ref (q 34), .int 0, .int 0, .int 0, .int 0, .int 0]))] (skI D (skT cI cJ cC cZ cS) (fun (r : Int32) (u : va_W) => r = -1 ∧ u = [])) := by
  refine skM_of (by decide) (Nat.le_of_ble_eq_true rfl) ?_
  intro p e s m below meth c A ls E hP hD hl
  obtain ⟨hx, hb, hr, hml, hlocks, hin, hown, hts, hK, hA⟩ := E
  have hown : s.vm.findClass RX11 = some m.cls := hown
  have hS : va_S A s.heap s.heap [] := va_S.rf
  have hl : lv_has ls 5 [(0, .ref x0), (1, .int d), (2, .int w)] := hl
  refine lv_aload_n hx hb dX11_sure_0 rfl (lv_at hl 0 rfl) ?_
  refine lv_iload_n hx hb dX11_sure_1 rfl (lv_at hl 1 rfl) ?_
  refine lv_iload_n hx hb dX11_sure_2 rfl (lv_at hl 2 rfl) ?_
  refine sk_Vi (q0 := 0) (n := 2) (rest := []) (wr := []) ⟨hx, hb, hml, hown, hts⟩ hl.1 (c_x_isWordOf l D cI cJ cC cZ cS x0 q d w) w_4_186 w_4_188 w_0_27 w_1_1 w_4_189 (by decide +kernel) ⟨⟨(Nat.le_of_ble_eq_true rfl), (Nat.le_of_ble_eq_true rfl)⟩, (Nat.le_of_ble_eq_true rfl), (Nat.le_of_ble_eq_true rfl)⟩ hK hP hD hS hA [0, 1] [] rfl rfl (by decide) (by decide) (by decide) rfl rfl rfl rfl (Nat.le_of_ble_eq_true rfl) dX11_sure_3 (fun r_1 u H locs hw hP hD hS => ?_)
  obtain ⟨rfl, rfl⟩ := hw
  have hP : va_P D vwCl [(x0, .inr (11, [.ref (q 0), .ref (q 1), .ref (q 2), .ref (q 3), .ref (q 4), .ref (q 5), .ref (q 6), .ref (q 7), .ref (q 8), .ref (q 9), .ref (q 10), .ref (q 11), .ref (q 12), .ref (q 13), .ref (q 14), .int 0, .ref (q 16), .long 1])), (q 7, .inr (7, [.ref (q 33), .ref (q 34), .int 0, .int 0, .int 0, .int 0, .int 0]))] H := hP
  have hD : va_D A [(x0, .inr (11, [.ref (q 0), .ref (q 1), .ref (q 2), .ref (q 3), .ref (q 4), .ref (q 5), .ref (q 6), .ref (q 7), .ref (q 8), .ref (q 9), .ref (q 10), .ref (q 11), .ref (q 12), .ref (q 13), .ref (q 14), .int 0, .ref (q 16), .long 1])), (q 7, .inr (7, [.ref (q 33), .ref (q 34), .int 0, .int 0, .int 0, .int 0, .int 0]))] := hD
  refine W.widen (k := 0) (n := 0) (Nat.le_of_ble_eq_true rfl) (Nat.le_of_ble_eq_true rfl) ?_
  refine lv_if_eq (tgt := 18) hx hb dX11_sure_6 (by decide) (fun c_2 => ?_) (fun c => absurd c (by decide))
  refine lv_iconst (v := (-1)) hx hb dX11_sure_18 (by decide) ?_
  have hP := hP.sub (ws' := []) [] rfl
  have hD := hD.sub (ws' := []) [] (by decide) rfl
  exact sk_iret hx hb hr rfl hlocks hK hP hD hS (⟨rfl, rfl⟩) (Nat.le_of_ble_eq_true rfl) (Nat.le_of_ble_eq_true rfl) dX11_sure_19
theorem dX11_hear_0 : decode cX11_hear 0 = .ok (.aload_n 0, 1) := by decide +kernel
theorem dX11_hear_1 : decode cX11_hear 1 = .ok (.invokevirtual 204, 3) := by decide +kernel
theorem dX11_hear_4 : decode cX11_hear 4 = .ok (.ifCond .eq 14, 3) := by decide +kernel
theorem dX11_hear_18 : decode cX11_hear 18 = .ok (.iconst 0, 1) := by decide +kernel
theorem dX11_hear_19 : decode cX11_hear 19 = .ok (.istore_n 1, 1) := by decide +kernel
theorem dX11_hear_20 : decode cX11_hear 20 = .ok (.aload_n 0, 1) := by decide +kernel
theorem dX11_hear_21 : decode cX11_hear 21 = .ok (.getfield 12, 3) := by decide +kernel
theorem dX11_hear_24 : decode cX11_hear 24 = .ok (.getfield 110, 3) := by decide +kernel
theorem dX11_hear_27 : decode cX11_hear 27 = .ok (.iconst 2, 1) := by decide +kernel
theorem dX11_hear_28 : decode cX11_hear 28 = .ok (.idiv, 1) := by decide +kernel
theorem dX11_hear_29 : decode cX11_hear 29 = .ok (.istore_n 2, 1) := by decide +kernel
theorem dX11_hear_30 : decode cX11_hear 30 = .ok (.aload_n 0, 1) := by decide +kernel
theorem dX11_hear_31 : decode cX11_hear 31 = .ok (.getfield 12, 3) := by decide +kernel
theorem dX11_hear_34 : decode cX11_hear 34 = .ok (.iconst 0, 1) := by decide +kernel
theorem dX11_hear_35 : decode cX11_hear 35 = .ok (.putfield 110, 3) := by decide +kernel
theorem dX11_hear_38 : decode cX11_hear 38 = .ok (.iload_n 1, 1) := by decide +kernel
theorem dX11_hear_39 : decode cX11_hear 39 = .ok (.ifCond .ne 9, 3) := by decide +kernel
theorem dX11_hear_42 : decode cX11_hear 42 = .ok (.aload_n 0, 1) := by decide +kernel
theorem dX11_hear_43 : decode cX11_hear 43 = .ok (.iconst 1, 1) := by decide +kernel
theorem dX11_hear_44 : decode cX11_hear 44 = .ok (.invokevirtual 113, 3) := by decide +kernel
theorem dX11_hear_47 : decode cX11_hear 47 = .ok (.ireturn, 1) := by decide +kernel
theorem w_4_209 : (Cond.code yX11_hear cX11_hear 4 (some .int)) ∈ wsL_law := sk_mem (ck_4 _ (List.mem_of_getElem? (i := 209) rfl)) rfl
set_option maxHeartbeats 4000000 in
set_option maxRecDepth 100000 in
theorem c_x_hear (l : Launch) (D : va_G) (cI cJ cC cZ cS : ClassId) (x0 : Nat) (q : Nat → Nat)  : skM l yX11_hear cX11_hear 4 (some .int) 1 21 0 0 D (skT cI cJ cC cZ cS) [.ref x0] [(x0, .inr (11, [.ref (q 0), .ref (q 1), .ref (q 2), .ref (q 3), .ref (q 4), .ref (q 5), .ref (q 6), .ref (q 7), .ref (q 8), .ref (q 9), .ref (q 10), .ref (q 11), .ref (q 12), .ref (q 13), .ref (q 14), .int 0, .ref (q 16), .long 1])), (q 7, .inr (7, [.ref (q 33), .ref (q 34), .int 0, .int 0, .int 0, .int 0, .int 0])), (q 0, .inr (10, [.ref (q 20), .int 0])), (q 16, .inl (cI, 6, .inl (fun _ => 0)))] (skI D (skT cI cJ cC cZ cS) (fun (r : Int32) (u : va_W) => r = -1 ∧ u = [])) := by
  refine skM_of (by decide) (Nat.le_of_ble_eq_true rfl) ?_
  intro p e s m below meth c A ls E hP hD hl
  obtain ⟨hx, hb, hr, hml, hlocks, hin, hown, hts, hK, hA⟩ := E
  have hown : s.vm.findClass RX11 = some m.cls := hown
  have hS : va_S A s.heap s.heap [] := va_S.rf
  have hl : lv_has ls 4 [(0, .ref x0)] := hl
  refine lv_aload_n hx hb dX11_hear_0 rfl (lv_at hl 0 rfl) ?_
  refine sk_Vi (q0 := 0) (n := 0) (rest := []) (wr := [(q 0, .inr (10, [.ref (q 20), .int 0])), (q 16, .inl (cI, 6, .inl (fun _ => 0)))]) ⟨hx, hb, hml, hown, hts⟩ hl.1 (c_x_isLocked l D cI cJ cC cZ cS x0 q) w_4_39 w_4_41 w_0_18 w_1_1 w_4_42 (by decide +kernel) ⟨⟨(Nat.le_of_ble_eq_true rfl), (Nat.le_of_ble_eq_true rfl)⟩, (Nat.le_of_ble_eq_true rfl), (Nat.le_of_ble_eq_true rfl)⟩ hK hP hD hS hA [0, 1] [2, 3] rfl rfl (by decide) (by decide) (by decide) rfl rfl rfl rfl (Nat.le_of_ble_eq_true rfl) dX11_hear_1 (fun r_1 u H locs hw hP hD hS => ?_)
  obtain ⟨rfl, rfl⟩ := hw
  have hP : va_P D vwCl [(q 0, .inr (10, [.ref (q 20), .int 0])), (q 16, .inl (cI, 6, .inl (fun _ => 0))), (x0, .inr (11, [.ref (q 0), .ref (q 1), .ref (q 2), .ref (q 3), .ref (q 4), .ref (q 5), .ref (q 6), .ref (q 7), .ref (q 8), .ref (q 9), .ref (q 10), .ref (q 11), .ref (q 12), .ref (q 13), .ref (q 14), .int 0, .ref (q 16), .long 1])), (q 7, .inr (7, [.ref (q 33), .ref (q 34), .int 0, .int 0, .int 0, .int 0, .int 0]))] H := hP
  have hD : va_D A [(q 0, .inr (10, [.ref (q 20), .int 0])), (q 16, .inl (cI, 6, .inl (fun _ => 0))), (x0, .inr (11, [.ref (q 0), .ref (q 1), .ref (q 2), .ref (q 3), .ref (q 4), .ref (q 5), .ref (q 6), .ref (q 7), .ref (q 8), .ref (q 9), .ref (q 10), .ref (q 11), .ref (q 12), .ref (q 13), .ref (q 14), .int 0, .ref (q 16), .long 1])), (q 7, .inr (7, [.ref (q 33), .ref (q 34), .int 0, .int 0, .int 0, .int 0, .int 0]))] := hD
  refine W.widen (k := 0) (n := 0) (Nat.le_of_ble_eq_true rfl) (Nat.le_of_ble_eq_true rfl) ?_
  refine lv_if_eq (tgt := 18) hx hb dX11_hear_4 (by decide) (fun c_2 => ?_) (fun c => absurd c (by decide))
  refine lv_iconst (v := 0) hx hb dX11_hear_18 (by decide) ?_
  refine lv_istore_n (lv' := [(1, .int 0), (0, .ref x0)]) hx hb dX11_hear_19 rfl hl (by decide) rfl (fun ls hl => ?_)
  refine lv_aload_n hx hb dX11_hear_20 rfl (lv_at hl 1 rfl) ?_
  refine sk_get (v := .ref (q 0)) (C := RX11) (T := TX11) (N := 18) hx hb hts inlX11 hown hK hP 2 rfl rfl 0 (by decide) w_2_123 rfl dX11_hear_21 ?_
  refine sk_get (v := .int 0) (C := RX10) (T := TX10) (N := 2) hx hb hts inlX10 hown hK hP 0 rfl rfl 1 (by decide) w_1_42 rfl dX11_hear_24 ?_
  refine lv_iconst (v := 2) hx hb dX11_hear_27 (by decide) ?_
  refine lv_idiv hx hb dX11_hear_28 (by decide) ?_
  refine sk_top 0 (by decide) ?_
  refine lv_istore_n (lv' := [(2, .int 0), (1, .int 0), (0, .ref x0)]) hx hb dX11_hear_29 rfl hl (by decide) rfl (fun ls hl => ?_)
  refine lv_aload_n hx hb dX11_hear_30 rfl (lv_at hl 2 rfl) ?_
  refine sk_get (v := .ref (q 0)) (C := RX11) (T := TX11) (N := 18) hx hb hts inlX11 hown hK hP 2 rfl rfl 0 (by decide) w_2_123 rfl dX11_hear_31 ?_
  refine lv_iconst (v := 0) hx hb dX11_hear_34 (by decide) ?_
  refine sk_put (ws' := [(q 0, .inr (10, [.ref (q 20), .int 0])), (q 16, .inl (cI, 6, .inl (fun _ => 0))), (x0, .inr (11, [.ref (q 0), .ref (q 1), .ref (q 2), .ref (q 3), .ref (q 4), .ref (q 5), .ref (q 6), .ref (q 7), .ref (q 8), .ref (q 9), .ref (q 10), .ref (q 11), .ref (q 12), .ref (q 13), .ref (q 14), .int 0, .ref (q 16), .long 1])), (q 7, .inr (7, [.ref (q 33), .ref (q 34), .int 0, .int 0, .int 0, .int 0, .int 0]))]) (C := RX10) (T := TX10) (N := 2) (v := .int 0) hx hb hts inlX10 tyX10 tyX10_ok nmX10 hown hK hP hD hS 0 rfl rfl 1 (by decide) w_1_42 rfl rfl rfl (Nat.le_of_ble_eq_true rfl) rfl dX11_hear_35 (fun H locs hP hD hS => ?_)
  refine lv_iload_n hx hb dX11_hear_38 rfl (lv_at hl 1 rfl) ?_
  refine lv_if_ne (tgt := 48) hx hb dX11_hear_39 (by decide) (fun c => absurd c (by decide)) (fun c_3 => ?_)
  refine lv_aload_n hx hb dX11_hear_42 rfl (lv_at hl 2 rfl) ?_
  refine lv_iconst (v := 1) hx hb dX11_hear_43 (by decide) ?_
  refine sk_Vi (q0 := 0) (n := 1) (rest := []) (wr := [(q 0, .inr (10, [.ref (q 20), .int 0])), (q 7, .inr (7, [.ref (q 33), .ref (q 34), .int 0, .int 0, .int 0, .int 0, .int 0]))]) ⟨hx, hb, hml, hown, hts⟩ hl.1 (c_x_refuse l D cI cJ cC cZ cS x0 q 1 (fun _ => 0) (by unfold vp_in; decide)) w_2_182 w_2_184 w_0_0 w_1_1 w_2_185 (by decide +kernel) ⟨⟨(Nat.le_of_ble_eq_true rfl), (Nat.le_of_ble_eq_true rfl)⟩, (Nat.le_of_ble_eq_true rfl), (Nat.le_of_ble_eq_true rfl)⟩ hK hP hD hS hA [2, 1] [0, 3] rfl rfl (by decide) (by decide) (by decide) rfl rfl rfl rfl (Nat.le_of_ble_eq_true rfl) dX11_hear_44 (fun r_5 u H locs hw hP hD hS => ?_)
  obtain ⟨f2_4, rfl, rfl⟩ := hw
  have hP : va_P D vwCl [(q 0, .inr (10, [.ref (q 20), .int 0])), (q 7, .inr (7, [.ref (q 33), .ref (q 34), .int 0, .int 0, .int 0, .int 0, .int 0])), (x0, .inr (11, [.ref (q 0), .ref (q 1), .ref (q 2), .ref (q 3), .ref (q 4), .ref (q 5), .ref (q 6), .ref (q 7), .ref (q 8), .ref (q 9), .ref (q 10), .ref (q 11), .ref (q 12), .ref (q 13), .ref (q 14), .int 0, .ref (q 16), .long 1])), (q 16, .inl (cI, 6, .inl f2_4))] H := hP
  have hD : va_D A [(q 0, .inr (10, [.ref (q 20), .int 0])), (q 7, .inr (7, [.ref (q 33), .ref (q 34), .int 0, .int 0, .int 0, .int 0, .int 0])), (x0, .inr (11, [.ref (q 0), .ref (q 1), .ref (q 2), .ref (q 3), .ref (q 4), .ref (q 5), .ref (q 6), .ref (q 7), .ref (q 8), .ref (q 9), .ref (q 10), .ref (q 11), .ref (q 12), .ref (q 13), .ref (q 14), .int 0, .ref (q 16), .long 1])), (q 16, .inl (cI, 6, .inl f2_4))] := hD
  refine W.widen (k := 0) (n := 0) (Nat.le_of_ble_eq_true rfl) (Nat.le_of_ble_eq_true rfl) ?_
  have hP := hP.sub (ws' := []) [] rfl
  have hD := hD.sub (ws' := []) [] (by decide) rfl
  exact sk_iret hx hb hr rfl hlocks hK hP hD hS (⟨rfl, rfl⟩) (Nat.le_of_ble_eq_true rfl) (Nat.le_of_ble_eq_true rfl) dX11_hear_47
theorem dX11_heard_0 : decode cX11_heard 0 = .ok (.aload_n 0, 1) := by decide +kernel
theorem dX11_heard_1 : decode cX11_heard 1 = .ok (.invokevirtual 204, 3) := by decide +kernel
theorem dX11_heard_4 : decode cX11_heard 4 = .ok (.ifCond .ne 7, 3) := by decide +kernel
theorem dX11_heard_7 : decode cX11_heard 7 = .ok (.ldc2_w 198, 3) := by decide +kernel
theorem dX11_heard_10 : decode cX11_heard 10 = .ok (.lreturn, 1) := by decide +kernel
theorem w_4_221 : (Cond.code yX11_heard cX11_heard 1 (some .long)) ∈ wsL_law := sk_mem (ck_4 _ (List.mem_of_getElem? (i := 221) rfl)) rfl
set_option maxHeartbeats 4000000 in
set_option maxRecDepth 100000 in
theorem c_x_heard (l : Launch) (D : va_G) (cI cJ cC cZ cS : ClassId) (x0 : Nat) (q : Nat → Nat)  : skM l yX11_heard cX11_heard 1 (some .long) 1 20 0 0 D (skT cI cJ cC cZ cS) [.ref x0] [(x0, .inr (11, [.ref (q 0), .ref (q 1), .ref (q 2), .ref (q 3), .ref (q 4), .ref (q 5), .ref (q 6), .ref (q 7), .ref (q 8), .ref (q 9), .ref (q 10), .ref (q 11), .ref (q 12), .ref (q 13), .ref (q 14), .int 0, .ref (q 16), .long 1])), (q 7, .inr (7, [.ref (q 33), .ref (q 34), .int 0, .int 0, .int 0, .int 0, .int 0]))] (skL D (skT cI cJ cC cZ cS) (fun (r : Int64) (u : va_W) => r = -1000000000000000 ∧ u = [])) := by
  refine skM_of (by decide) (Nat.le_of_ble_eq_true rfl) ?_
  intro p e s m below meth c A ls E hP hD hl
  obtain ⟨hx, hb, hr, hml, hlocks, hin, hown, hts, hK, hA⟩ := E
  have hown : s.vm.findClass RX11 = some m.cls := hown
  have hS : va_S A s.heap s.heap [] := va_S.rf
  have hl : lv_has ls 1 [(0, .ref x0)] := hl
  refine lv_aload_n hx hb dX11_heard_0 rfl (lv_at hl 0 rfl) ?_
  refine sk_Vi (q0 := 0) (n := 0) (rest := []) (wr := []) ⟨hx, hb, hml, hown, hts⟩ hl.1 (c_x_isLocked l D cI cJ cC cZ cS x0 q) w_4_39 w_4_41 w_0_18 w_1_1 w_4_42 (by decide +kernel) ⟨⟨(Nat.le_of_ble_eq_true rfl), (Nat.le_of_ble_eq_true rfl)⟩, (Nat.le_of_ble_eq_true rfl), (Nat.le_of_ble_eq_true rfl)⟩ hK hP hD hS hA [0, 1] [] rfl rfl (by decide) (by decide) (by decide) rfl rfl rfl rfl (Nat.le_of_ble_eq_true rfl) dX11_heard_1 (fun r_1 u H locs hw hP hD hS => ?_)
  obtain ⟨rfl, rfl⟩ := hw
  have hP : va_P D vwCl [(x0, .inr (11, [.ref (q 0), .ref (q 1), .ref (q 2), .ref (q 3), .ref (q 4), .ref (q 5), .ref (q 6), .ref (q 7), .ref (q 8), .ref (q 9), .ref (q 10), .ref (q 11), .ref (q 12), .ref (q 13), .ref (q 14), .int 0, .ref (q 16), .long 1])), (q 7, .inr (7, [.ref (q 33), .ref (q 34), .int 0, .int 0, .int 0, .int 0, .int 0]))] H := hP
  have hD : va_D A [(x0, .inr (11, [.ref (q 0), .ref (q 1), .ref (q 2), .ref (q 3), .ref (q 4), .ref (q 5), .ref (q 6), .ref (q 7), .ref (q 8), .ref (q 9), .ref (q 10), .ref (q 11), .ref (q 12), .ref (q 13), .ref (q 14), .int 0, .ref (q 16), .long 1])), (q 7, .inr (7, [.ref (q 33), .ref (q 34), .int 0, .int 0, .int 0, .int 0, .int 0]))] := hD
  refine W.widen (k := 0) (n := 0) (Nat.le_of_ble_eq_true rfl) (Nat.le_of_ble_eq_true rfl) ?_
  refine lv_if_ne (tgt := 11) hx hb dX11_heard_4 (by decide) (fun c => absurd c (by decide)) (fun c_2 => ?_)
  refine lv_ldc2 (v := (-1000000000000000)) hx hb hown (hts _ w_4_29) dX11_heard_7 ?_
  have hP := hP.sub (ws' := []) [] rfl
  have hD := hD.sub (ws' := []) [] (by decide) rfl
  exact sk_lret hx hb hr hlocks hK hP hD hS (⟨rfl, rfl⟩) (Nat.le_of_ble_eq_true rfl) (Nat.le_of_ble_eq_true rfl) dX11_heard_10
theorem dX11_tells_0 : decode cX11_tells 0 = .ok (.aload_n 0, 1) := by decide +kernel
theorem dX11_tells_1 : decode cX11_tells 1 = .ok (.invokevirtual 204, 3) := by decide +kernel
theorem dX11_tells_4 : decode cX11_tells 4 = .ok (.ifCond .eq 19, 3) := by decide +kernel
theorem dX11_tells_23 : decode cX11_tells 23 = .ok (.ldc2_w 198, 3) := by decide +kernel
theorem dX11_tells_26 : decode cX11_tells 26 = .ok (.lreturn, 1) := by decide +kernel
theorem w_4_229 : (Cond.code yX11_tells cX11_tells 8 (some .long)) ∈ wsL_law := sk_mem (ck_4 _ (List.mem_of_getElem? (i := 229) rfl)) rfl
set_option maxHeartbeats 4000000 in
set_option maxRecDepth 100000 in
theorem c_x_tells (l : Launch) (D : va_G) (cI cJ cC cZ cS : ClassId) (x0 : Nat) (q : Nat → Nat) (w : Int32)  : skM l yX11_tells cX11_tells 8 (some .long) 1 20 0 0 D (skT cI cJ cC cZ cS) [.ref x0, .int w] [(x0, .inr (11, [.ref (q 0), .ref (q 1), .ref (q 2), .ref (q 3), .ref (q 4), .ref (q 5), .ref (q 6), .ref (q 7), .ref (q 8), .ref (q 9), .ref (q 10), .ref (q 11), .ref (q 12), .ref (q 13), .ref (q 14), .int 0, .ref (q 16), .long 1])), (q 7, .inr (7, [.ref (q 33), .ref (q 34), .int 0, .int 0, .int 0, .int 0, .int 0]))] (skL D (skT cI cJ cC cZ cS) (fun (r : Int64) (u : va_W) => r = -1000000000000000 ∧ u = [])) := by
  refine skM_of (by decide) (Nat.le_of_ble_eq_true rfl) ?_
  intro p e s m below meth c A ls E hP hD hl
  obtain ⟨hx, hb, hr, hml, hlocks, hin, hown, hts, hK, hA⟩ := E
  have hown : s.vm.findClass RX11 = some m.cls := hown
  have hS : va_S A s.heap s.heap [] := va_S.rf
  have hl : lv_has ls 8 [(0, .ref x0), (1, .int w)] := hl
  refine lv_aload_n hx hb dX11_tells_0 rfl (lv_at hl 0 rfl) ?_
  refine sk_Vi (q0 := 0) (n := 0) (rest := []) (wr := []) ⟨hx, hb, hml, hown, hts⟩ hl.1 (c_x_isLocked l D cI cJ cC cZ cS x0 q) w_4_39 w_4_41 w_0_18 w_1_1 w_4_42 (by decide +kernel) ⟨⟨(Nat.le_of_ble_eq_true rfl), (Nat.le_of_ble_eq_true rfl)⟩, (Nat.le_of_ble_eq_true rfl), (Nat.le_of_ble_eq_true rfl)⟩ hK hP hD hS hA [0, 1] [] rfl rfl (by decide) (by decide) (by decide) rfl rfl rfl rfl (Nat.le_of_ble_eq_true rfl) dX11_tells_1 (fun r_1 u H locs hw hP hD hS => ?_)
  obtain ⟨rfl, rfl⟩ := hw
  have hP : va_P D vwCl [(x0, .inr (11, [.ref (q 0), .ref (q 1), .ref (q 2), .ref (q 3), .ref (q 4), .ref (q 5), .ref (q 6), .ref (q 7), .ref (q 8), .ref (q 9), .ref (q 10), .ref (q 11), .ref (q 12), .ref (q 13), .ref (q 14), .int 0, .ref (q 16), .long 1])), (q 7, .inr (7, [.ref (q 33), .ref (q 34), .int 0, .int 0, .int 0, .int 0, .int 0]))] H := hP
  have hD : va_D A [(x0, .inr (11, [.ref (q 0), .ref (q 1), .ref (q 2), .ref (q 3), .ref (q 4), .ref (q 5), .ref (q 6), .ref (q 7), .ref (q 8), .ref (q 9), .ref (q 10), .ref (q 11), .ref (q 12), .ref (q 13), .ref (q 14), .int 0, .ref (q 16), .long 1])), (q 7, .inr (7, [.ref (q 33), .ref (q 34), .int 0, .int 0, .int 0, .int 0, .int 0]))] := hD
  refine W.widen (k := 0) (n := 0) (Nat.le_of_ble_eq_true rfl) (Nat.le_of_ble_eq_true rfl) ?_
  refine lv_if_eq (tgt := 23) hx hb dX11_tells_4 (by decide) (fun c_2 => ?_) (fun c => absurd c (by decide))
  refine lv_ldc2 (v := (-1000000000000000)) hx hb hown (hts _ w_4_29) dX11_tells_23 ?_
  have hP := hP.sub (ws' := []) [] rfl
  have hD := hD.sub (ws' := []) [] (by decide) rfl
  exact sk_lret hx hb hr hlocks hK hP hD hS (⟨rfl, rfl⟩) (Nat.le_of_ble_eq_true rfl) (Nat.le_of_ble_eq_true rfl) dX11_tells_26
end
section
theorem dX11_set_0 : decode cX11_set 0 = .ok (.aload_n 0, 1) := by decide +kernel
theorem dX11_set_1 : decode cX11_set 1 = .ok (.iload_n 1, 1) := by decide +kernel
theorem dX11_set_2 : decode cX11_set 2 = .ok (.invokevirtual 170, 3) := by decide +kernel
theorem dX11_set_5 : decode cX11_set 5 = .ok (.ifCond .eq 32, 3) := by decide +kernel
theorem dX11_set_37 : decode cX11_set 37 = .ok (.aload_n 0, 1) := by decide +kernel
theorem dX11_set_38 : decode cX11_set 38 = .ok (.iconst 2, 1) := by decide +kernel
theorem dX11_set_39 : decode cX11_set 39 = .ok (.invokevirtual 120, 3) := by decide +kernel
theorem dX11_set_42 : decode cX11_set 42 = .ok (.ireturn, 1) := by decide +kernel
theorem w_5_2 : (Cond.code yX11_set cX11_set 4 (some .boolean)) ∈ wsL_law := sk_mem (ck_5 _ (List.mem_of_getElem? (i := 2) rfl)) rfl
set_option maxHeartbeats 4000000 in
set_option maxRecDepth 100000 in
theorem c_x_set (l : Launch) (D : va_G) (cI cJ cC cZ cS : ClassId) (x0 : Nat) (q : Nat → Nat) (d : Int32) (w : Int32) (o : Int32)  : skM l yX11_set cX11_set 4 (some .boolean) 1 21 0 0 D (skT cI cJ cC cZ cS) [.ref x0, .int d, .int w, .int o] [(x0, .inr (11, [.ref (q 0), .ref (q 1), .ref (q 2), .ref (q 3), .ref (q 4), .ref (q 5), .ref (q 6), .ref (q 7), .ref (q 8), .ref (q 9), .ref (q 10), .ref (q 11), .ref (q 12), .ref (q 13), .ref (q 14), .int 0, .ref (q 16), .long 1])), (q 7, .inr (7, [.ref (q 33), .ref (q 34), .int 0, .int 0, .int 0, .int 0, .int 0])), (q 16, .inl (cI, 6, .inl (fun _ => 0)))] (skI D (skT cI cJ cC cZ cS) (fun (r : Int32) (u : va_W) => r = 0 ∧ u = [])) := by
  refine skM_of (by decide) (Nat.le_of_ble_eq_true rfl) ?_
  intro p e s m below meth c A ls E hP hD hl
  obtain ⟨hx, hb, hr, hml, hlocks, hin, hown, hts, hK, hA⟩ := E
  have hown : s.vm.findClass RX11 = some m.cls := hown
  have hS : va_S A s.heap s.heap [] := va_S.rf
  have hl : lv_has ls 4 [(0, .ref x0), (1, .int d), (2, .int w), (3, .int o)] := hl
  refine lv_aload_n hx hb dX11_set_0 rfl (lv_at hl 0 rfl) ?_
  refine lv_iload_n hx hb dX11_set_1 rfl (lv_at hl 1 rfl) ?_
  refine sk_Vi (q0 := 0) (n := 1) (rest := []) (wr := [(q 16, .inl (cI, 6, .inl (fun _ => 0)))]) ⟨hx, hb, hml, hown, hts⟩ hl.1 (c_x_isDay l D cI cJ cC cZ cS x0 q d) w_3_190 w_3_192 w_0_14 w_1_1 w_3_193 (by decide +kernel) ⟨⟨(Nat.le_of_ble_eq_true rfl), (Nat.le_of_ble_eq_true rfl)⟩, (Nat.le_of_ble_eq_true rfl), (Nat.le_of_ble_eq_true rfl)⟩ hK hP hD hS hA [0, 1] [2] rfl rfl (by decide) (by decide) (by decide) rfl rfl rfl rfl (Nat.le_of_ble_eq_true rfl) dX11_set_2 (fun r_1 u H locs hw hP hD hS => ?_)
  obtain ⟨rfl, rfl⟩ := hw
  have hP : va_P D vwCl [(q 16, .inl (cI, 6, .inl (fun _ => 0))), (x0, .inr (11, [.ref (q 0), .ref (q 1), .ref (q 2), .ref (q 3), .ref (q 4), .ref (q 5), .ref (q 6), .ref (q 7), .ref (q 8), .ref (q 9), .ref (q 10), .ref (q 11), .ref (q 12), .ref (q 13), .ref (q 14), .int 0, .ref (q 16), .long 1])), (q 7, .inr (7, [.ref (q 33), .ref (q 34), .int 0, .int 0, .int 0, .int 0, .int 0]))] H := hP
  have hD : va_D A [(q 16, .inl (cI, 6, .inl (fun _ => 0))), (x0, .inr (11, [.ref (q 0), .ref (q 1), .ref (q 2), .ref (q 3), .ref (q 4), .ref (q 5), .ref (q 6), .ref (q 7), .ref (q 8), .ref (q 9), .ref (q 10), .ref (q 11), .ref (q 12), .ref (q 13), .ref (q 14), .int 0, .ref (q 16), .long 1])), (q 7, .inr (7, [.ref (q 33), .ref (q 34), .int 0, .int 0, .int 0, .int 0, .int 0]))] := hD
  refine W.widen (k := 0) (n := 0) (Nat.le_of_ble_eq_true rfl) (Nat.le_of_ble_eq_true rfl) ?_
  refine lv_if_eq (tgt := 37) hx hb dX11_set_5 (by decide) (fun c_2 => ?_) (fun c => absurd c (by decide))
  refine lv_aload_n hx hb dX11_set_37 rfl (lv_at hl 0 rfl) ?_
  refine lv_iconst (v := 2) hx hb dX11_set_38 (by decide) ?_
  refine sk_Vi (q0 := 0) (n := 1) (rest := []) (wr := [(q 7, .inr (7, [.ref (q 33), .ref (q 34), .int 0, .int 0, .int 0, .int 0, .int 0]))]) ⟨hx, hb, hml, hown, hts⟩ hl.1 (c_x_refuseIt l D cI cJ cC cZ cS x0 q 2 (fun _ => 0) (by unfold vp_in; decide)) w_2_198 w_2_200 w_0_1 w_1_1 w_2_201 (by decide +kernel) ⟨⟨(Nat.le_of_ble_eq_true rfl), (Nat.le_of_ble_eq_true rfl)⟩, (Nat.le_of_ble_eq_true rfl), (Nat.le_of_ble_eq_true rfl)⟩ hK hP hD hS hA [1, 0] [2] rfl rfl (by decide) (by decide) (by decide) rfl rfl rfl rfl (Nat.le_of_ble_eq_true rfl) dX11_set_39 (fun r_4 u H locs hw hP hD hS => ?_)
  obtain ⟨f2_3, rfl, rfl⟩ := hw
  have hP : va_P D vwCl [(q 7, .inr (7, [.ref (q 33), .ref (q 34), .int 0, .int 0, .int 0, .int 0, .int 0])), (x0, .inr (11, [.ref (q 0), .ref (q 1), .ref (q 2), .ref (q 3), .ref (q 4), .ref (q 5), .ref (q 6), .ref (q 7), .ref (q 8), .ref (q 9), .ref (q 10), .ref (q 11), .ref (q 12), .ref (q 13), .ref (q 14), .int 0, .ref (q 16), .long 1])), (q 16, .inl (cI, 6, .inl f2_3))] H := hP
  have hD : va_D A [(q 7, .inr (7, [.ref (q 33), .ref (q 34), .int 0, .int 0, .int 0, .int 0, .int 0])), (x0, .inr (11, [.ref (q 0), .ref (q 1), .ref (q 2), .ref (q 3), .ref (q 4), .ref (q 5), .ref (q 6), .ref (q 7), .ref (q 8), .ref (q 9), .ref (q 10), .ref (q 11), .ref (q 12), .ref (q 13), .ref (q 14), .int 0, .ref (q 16), .long 1])), (q 16, .inl (cI, 6, .inl f2_3))] := hD
  refine W.widen (k := 0) (n := 0) (Nat.le_of_ble_eq_true rfl) (Nat.le_of_ble_eq_true rfl) ?_
  have hP := hP.sub (ws' := []) [] rfl
  have hD := hD.sub (ws' := []) [] (by decide) rfl
  exact sk_iret hx hb hr rfl hlocks hK hP hD hS (⟨rfl, rfl⟩) (Nat.le_of_ble_eq_true rfl) (Nat.le_of_ble_eq_true rfl) dX11_set_42
theorem dX11_mute_0 : decode cX11_mute 0 = .ok (.aload_n 0, 1) := by decide +kernel
theorem dX11_mute_1 : decode cX11_mute 1 = .ok (.iload_n 1, 1) := by decide +kernel
theorem dX11_mute_2 : decode cX11_mute 2 = .ok (.invokevirtual 170, 3) := by decide +kernel
theorem dX11_mute_5 : decode cX11_mute 5 = .ok (.ifCond .eq 33, 3) := by decide +kernel
theorem dX11_mute_38 : decode cX11_mute 38 = .ok (.aload_n 0, 1) := by decide +kernel
theorem dX11_mute_39 : decode cX11_mute 39 = .ok (.iconst 2, 1) := by decide +kernel
theorem dX11_mute_40 : decode cX11_mute 40 = .ok (.invokevirtual 120, 3) := by decide +kernel
theorem dX11_mute_43 : decode cX11_mute 43 = .ok (.ireturn, 1) := by decide +kernel
theorem w_5_15 : (Cond.code yX11_mute cX11_mute 3 (some .boolean)) ∈ wsL_law := sk_mem (ck_5 _ (List.mem_of_getElem? (i := 15) rfl)) rfl
set_option maxHeartbeats 4000000 in
set_option maxRecDepth 100000 in
theorem c_x_mute (l : Launch) (D : va_G) (cI cJ cC cZ cS : ClassId) (x0 : Nat) (q : Nat → Nat) (d : Int32) (w : Int32)  : skM l yX11_mute cX11_mute 3 (some .boolean) 1 21 0 0 D (skT cI cJ cC cZ cS) [.ref x0, .int d, .int w] [(x0, .inr (11, [.ref (q 0), .ref (q 1), .ref (q 2), .ref (q 3), .ref (q 4), .ref (q 5), .ref (q 6), .ref (q 7), .ref (q 8), .ref (q 9), .ref (q 10), .ref (q 11), .ref (q 12), .ref (q 13), .ref (q 14), .int 0, .ref (q 16), .long 1])), (q 7, .inr (7, [.ref (q 33), .ref (q 34), .int 0, .int 0, .int 0, .int 0, .int 0])), (q 16, .inl (cI, 6, .inl (fun _ => 0)))] (skI D (skT cI cJ cC cZ cS) (fun (r : Int32) (u : va_W) => r = 0 ∧ u = [])) := by
  refine skM_of (by decide) (Nat.le_of_ble_eq_true rfl) ?_
  intro p e s m below meth c A ls E hP hD hl
  obtain ⟨hx, hb, hr, hml, hlocks, hin, hown, hts, hK, hA⟩ := E
  have hown : s.vm.findClass RX11 = some m.cls := hown
  have hS : va_S A s.heap s.heap [] := va_S.rf
  have hl : lv_has ls 3 [(0, .ref x0), (1, .int d), (2, .int w)] := hl
  refine lv_aload_n hx hb dX11_mute_0 rfl (lv_at hl 0 rfl) ?_
  refine lv_iload_n hx hb dX11_mute_1 rfl (lv_at hl 1 rfl) ?_
  refine sk_Vi (q0 := 0) (n := 1) (rest := []) (wr := [(q 16, .inl (cI, 6, .inl (fun _ => 0)))]) ⟨hx, hb, hml, hown, hts⟩ hl.1 (c_x_isDay l D cI cJ cC cZ cS x0 q d) w_3_190 w_3_192 w_0_14 w_1_1 w_3_193 (by decide +kernel) ⟨⟨(Nat.le_of_ble_eq_true rfl), (Nat.le_of_ble_eq_true rfl)⟩, (Nat.le_of_ble_eq_true rfl), (Nat.le_of_ble_eq_true rfl)⟩ hK hP hD hS hA [0, 1] [2] rfl rfl (by decide) (by decide) (by decide) rfl rfl rfl rfl (Nat.le_of_ble_eq_true rfl) dX11_mute_2 (fun r_1 u H locs hw hP hD hS => ?_)
  obtain ⟨rfl, rfl⟩ := hw
  have hP : va_P D vwCl [(q 16, .inl (cI, 6, .inl (fun _ => 0))), (x0, .inr (11, [.ref (q 0), .ref (q 1), .ref (q 2), .ref (q 3), .ref (q 4), .ref (q 5), .ref (q 6), .ref (q 7), .ref (q 8), .ref (q 9), .ref (q 10), .ref (q 11), .ref (q 12), .ref (q 13), .ref (q 14), .int 0, .ref (q 16), .long 1])), (q 7, .inr (7, [.ref (q 33), .ref (q 34), .int 0, .int 0, .int 0, .int 0, .int 0]))] H := hP
  have hD : va_D A [(q 16, .inl (cI, 6, .inl (fun _ => 0))), (x0, .inr (11, [.ref (q 0), .ref (q 1), .ref (q 2), .ref (q 3), .ref (q 4), .ref (q 5), .ref (q 6), .ref (q 7), .ref (q 8), .ref (q 9), .ref (q 10), .ref (q 11), .ref (q 12), .ref (q 13), .ref (q 14), .int 0, .ref (q 16), .long 1])), (q 7, .inr (7, [.ref (q 33), .ref (q 34), .int 0, .int 0, .int 0, .int 0, .int 0]))] := hD
  refine W.widen (k := 0) (n := 0) (Nat.le_of_ble_eq_true rfl) (Nat.le_of_ble_eq_true rfl) ?_
  refine lv_if_eq (tgt := 38) hx hb dX11_mute_5 (by decide) (fun c_2 => ?_) (fun c => absurd c (by decide))
  refine lv_aload_n hx hb dX11_mute_38 rfl (lv_at hl 0 rfl) ?_
  refine lv_iconst (v := 2) hx hb dX11_mute_39 (by decide) ?_
  refine sk_Vi (q0 := 0) (n := 1) (rest := []) (wr := [(q 7, .inr (7, [.ref (q 33), .ref (q 34), .int 0, .int 0, .int 0, .int 0, .int 0]))]) ⟨hx, hb, hml, hown, hts⟩ hl.1 (c_x_refuseIt l D cI cJ cC cZ cS x0 q 2 (fun _ => 0) (by unfold vp_in; decide)) w_2_198 w_2_200 w_0_1 w_1_1 w_2_201 (by decide +kernel) ⟨⟨(Nat.le_of_ble_eq_true rfl), (Nat.le_of_ble_eq_true rfl)⟩, (Nat.le_of_ble_eq_true rfl), (Nat.le_of_ble_eq_true rfl)⟩ hK hP hD hS hA [1, 0] [2] rfl rfl (by decide) (by decide) (by decide) rfl rfl rfl rfl (Nat.le_of_ble_eq_true rfl) dX11_mute_40 (fun r_4 u H locs hw hP hD hS => ?_)
  obtain ⟨f2_3, rfl, rfl⟩ := hw
  have hP : va_P D vwCl [(q 7, .inr (7, [.ref (q 33), .ref (q 34), .int 0, .int 0, .int 0, .int 0, .int 0])), (x0, .inr (11, [.ref (q 0), .ref (q 1), .ref (q 2), .ref (q 3), .ref (q 4), .ref (q 5), .ref (q 6), .ref (q 7), .ref (q 8), .ref (q 9), .ref (q 10), .ref (q 11), .ref (q 12), .ref (q 13), .ref (q 14), .int 0, .ref (q 16), .long 1])), (q 16, .inl (cI, 6, .inl f2_3))] H := hP
  have hD : va_D A [(q 7, .inr (7, [.ref (q 33), .ref (q 34), .int 0, .int 0, .int 0, .int 0, .int 0])), (x0, .inr (11, [.ref (q 0), .ref (q 1), .ref (q 2), .ref (q 3), .ref (q 4), .ref (q 5), .ref (q 6), .ref (q 7), .ref (q 8), .ref (q 9), .ref (q 10), .ref (q 11), .ref (q 12), .ref (q 13), .ref (q 14), .int 0, .ref (q 16), .long 1])), (q 16, .inl (cI, 6, .inl f2_3))] := hD
  refine W.widen (k := 0) (n := 0) (Nat.le_of_ble_eq_true rfl) (Nat.le_of_ble_eq_true rfl) ?_
  have hP := hP.sub (ws' := []) [] rfl
  have hD := hD.sub (ws' := []) [] (by decide) rfl
  exact sk_iret hx hb hr rfl hlocks hK hP hD hS (⟨rfl, rfl⟩) (Nat.le_of_ble_eq_true rfl) (Nat.le_of_ble_eq_true rfl) dX11_mute_43
theorem dX11_go_0 : decode cX11_go 0 = .ok (.aload_n 0, 1) := by decide +kernel
theorem dX11_go_1 : decode cX11_go 1 = .ok (.invokevirtual 204, 3) := by decide +kernel
theorem dX11_go_4 : decode cX11_go 4 = .ok (.ifCond .eq 27, 3) := by decide +kernel
theorem dX11_go_31 : decode cX11_go 31 = .ok (.aload_n 0, 1) := by decide +kernel
theorem dX11_go_32 : decode cX11_go 32 = .ok (.iconst 3, 1) := by decide +kernel
theorem dX11_go_33 : decode cX11_go 33 = .ok (.invokevirtual 113, 3) := by decide +kernel
theorem dX11_go_36 : decode cX11_go 36 = .ok (.ireturn, 1) := by decide +kernel
theorem w_5_19 : (Cond.code yX11_go cX11_go 3 (some .int)) ∈ wsL_law := sk_mem (ck_5 _ (List.mem_of_getElem? (i := 19) rfl)) rfl
set_option maxHeartbeats 4000000 in
set_option maxRecDepth 100000 in
theorem c_x_go (l : Launch) (D : va_G) (cI cJ cC cZ cS : ClassId) (x0 : Nat) (q : Nat → Nat)  : skM l yX11_go cX11_go 3 (some .int) 1 21 0 0 D (skT cI cJ cC cZ cS) [.ref x0] [(x0, .inr (11, [.ref (q 0), .ref (q 1), .ref (q 2), .ref (q 3), .ref (q 4), .ref (q 5), .ref (q 6), .ref (q 7), .ref (q 8), .ref (q 9), .ref (q 10), .ref (q 11), .ref (q 12), .ref (q 13), .ref (q 14), .int 0, .ref (q 16), .long 1])), (q 7, .inr (7, [.ref (q 33), .ref (q 34), .int 0, .int 0, .int 0, .int 0, .int 0])), (q 16, .inl (cI, 6, .inl (fun _ => 0)))] (skI D (skT cI cJ cC cZ cS) (fun (r : Int32) (u : va_W) => r = -1 ∧ u = [])) := by
  refine skM_of (by decide) (Nat.le_of_ble_eq_true rfl) ?_
  intro p e s m below meth c A ls E hP hD hl
  obtain ⟨hx, hb, hr, hml, hlocks, hin, hown, hts, hK, hA⟩ := E
  have hown : s.vm.findClass RX11 = some m.cls := hown
  have hS : va_S A s.heap s.heap [] := va_S.rf
  have hl : lv_has ls 3 [(0, .ref x0)] := hl
  refine lv_aload_n hx hb dX11_go_0 rfl (lv_at hl 0 rfl) ?_
  refine sk_Vi (q0 := 0) (n := 0) (rest := []) (wr := [(q 16, .inl (cI, 6, .inl (fun _ => 0)))]) ⟨hx, hb, hml, hown, hts⟩ hl.1 (c_x_isLocked l D cI cJ cC cZ cS x0 q) w_4_39 w_4_41 w_0_18 w_1_1 w_4_42 (by decide +kernel) ⟨⟨(Nat.le_of_ble_eq_true rfl), (Nat.le_of_ble_eq_true rfl)⟩, (Nat.le_of_ble_eq_true rfl), (Nat.le_of_ble_eq_true rfl)⟩ hK hP hD hS hA [0, 1] [2] rfl rfl (by decide) (by decide) (by decide) rfl rfl rfl rfl (Nat.le_of_ble_eq_true rfl) dX11_go_1 (fun r_1 u H locs hw hP hD hS => ?_)
  obtain ⟨rfl, rfl⟩ := hw
  have hP : va_P D vwCl [(q 16, .inl (cI, 6, .inl (fun _ => 0))), (x0, .inr (11, [.ref (q 0), .ref (q 1), .ref (q 2), .ref (q 3), .ref (q 4), .ref (q 5), .ref (q 6), .ref (q 7), .ref (q 8), .ref (q 9), .ref (q 10), .ref (q 11), .ref (q 12), .ref (q 13), .ref (q 14), .int 0, .ref (q 16), .long 1])), (q 7, .inr (7, [.ref (q 33), .ref (q 34), .int 0, .int 0, .int 0, .int 0, .int 0]))] H := hP
  have hD : va_D A [(q 16, .inl (cI, 6, .inl (fun _ => 0))), (x0, .inr (11, [.ref (q 0), .ref (q 1), .ref (q 2), .ref (q 3), .ref (q 4), .ref (q 5), .ref (q 6), .ref (q 7), .ref (q 8), .ref (q 9), .ref (q 10), .ref (q 11), .ref (q 12), .ref (q 13), .ref (q 14), .int 0, .ref (q 16), .long 1])), (q 7, .inr (7, [.ref (q 33), .ref (q 34), .int 0, .int 0, .int 0, .int 0, .int 0]))] := hD
  refine W.widen (k := 0) (n := 0) (Nat.le_of_ble_eq_true rfl) (Nat.le_of_ble_eq_true rfl) ?_
  refine lv_if_eq (tgt := 31) hx hb dX11_go_4 (by decide) (fun c_2 => ?_) (fun c => absurd c (by decide))
  refine lv_aload_n hx hb dX11_go_31 rfl (lv_at hl 0 rfl) ?_
  refine lv_iconst (v := 3) hx hb dX11_go_32 (by decide) ?_
  refine sk_Vi (q0 := 0) (n := 1) (rest := []) (wr := [(q 7, .inr (7, [.ref (q 33), .ref (q 34), .int 0, .int 0, .int 0, .int 0, .int 0]))]) ⟨hx, hb, hml, hown, hts⟩ hl.1 (c_x_refuse l D cI cJ cC cZ cS x0 q 3 (fun _ => 0) (by unfold vp_in; decide)) w_2_182 w_2_184 w_0_0 w_1_1 w_2_185 (by decide +kernel) ⟨⟨(Nat.le_of_ble_eq_true rfl), (Nat.le_of_ble_eq_true rfl)⟩, (Nat.le_of_ble_eq_true rfl), (Nat.le_of_ble_eq_true rfl)⟩ hK hP hD hS hA [1, 0] [2] rfl rfl (by decide) (by decide) (by decide) rfl rfl rfl rfl (Nat.le_of_ble_eq_true rfl) dX11_go_33 (fun r_4 u H locs hw hP hD hS => ?_)
  obtain ⟨f2_3, rfl, rfl⟩ := hw
  have hP : va_P D vwCl [(q 7, .inr (7, [.ref (q 33), .ref (q 34), .int 0, .int 0, .int 0, .int 0, .int 0])), (x0, .inr (11, [.ref (q 0), .ref (q 1), .ref (q 2), .ref (q 3), .ref (q 4), .ref (q 5), .ref (q 6), .ref (q 7), .ref (q 8), .ref (q 9), .ref (q 10), .ref (q 11), .ref (q 12), .ref (q 13), .ref (q 14), .int 0, .ref (q 16), .long 1])), (q 16, .inl (cI, 6, .inl f2_3))] H := hP
  have hD : va_D A [(q 7, .inr (7, [.ref (q 33), .ref (q 34), .int 0, .int 0, .int 0, .int 0, .int 0])), (x0, .inr (11, [.ref (q 0), .ref (q 1), .ref (q 2), .ref (q 3), .ref (q 4), .ref (q 5), .ref (q 6), .ref (q 7), .ref (q 8), .ref (q 9), .ref (q 10), .ref (q 11), .ref (q 12), .ref (q 13), .ref (q 14), .int 0, .ref (q 16), .long 1])), (q 16, .inl (cI, 6, .inl f2_3))] := hD
  refine W.widen (k := 0) (n := 0) (Nat.le_of_ble_eq_true rfl) (Nat.le_of_ble_eq_true rfl) ?_
  have hP := hP.sub (ws' := []) [] rfl
  have hD := hD.sub (ws' := []) [] (by decide) rfl
  exact sk_iret hx hb hr rfl hlocks hK hP hD hS (⟨rfl, rfl⟩) (Nat.le_of_ble_eq_true rfl) (Nat.le_of_ble_eq_true rfl) dX11_go_36
theorem dX11_chance_0 : decode cX11_chance 0 = .ok (.aload_n 0, 1) := by decide +kernel
theorem dX11_chance_1 : decode cX11_chance 1 = .ok (.invokevirtual 204, 3) := by decide +kernel
theorem dX11_chance_4 : decode cX11_chance 4 = .ok (.ifCond .eq 29, 3) := by decide +kernel
theorem dX11_chance_33 : decode cX11_chance 33 = .ok (.aload_n 0, 1) := by decide +kernel
theorem dX11_chance_34 : decode cX11_chance 34 = .ok (.iconst 3, 1) := by decide +kernel
theorem dX11_chance_35 : decode cX11_chance 35 = .ok (.invokevirtual 113, 3) := by decide +kernel
theorem dX11_chance_38 : decode cX11_chance 38 = .ok (.ireturn, 1) := by decide +kernel
theorem w_5_31 : (Cond.code yX11_chance cX11_chance 4 (some .int)) ∈ wsL_law := sk_mem (ck_5 _ (List.mem_of_getElem? (i := 31) rfl)) rfl
set_option maxHeartbeats 4000000 in
set_option maxRecDepth 100000 in
theorem c_x_chance (l : Launch) (D : va_G) (cI cJ cC cZ cS : ClassId) (x0 : Nat) (q : Nat → Nat) (n : Int32)  : skM l yX11_chance cX11_chance 4 (some .int) 1 21 0 0 D (skT cI cJ cC cZ cS) [.ref x0, .int n] [(x0, .inr (11, [.ref (q 0), .ref (q 1), .ref (q 2), .ref (q 3), .ref (q 4), .ref (q 5), .ref (q 6), .ref (q 7), .ref (q 8), .ref (q 9), .ref (q 10), .ref (q 11), .ref (q 12), .ref (q 13), .ref (q 14), .int 0, .ref (q 16), .long 1])), (q 7, .inr (7, [.ref (q 33), .ref (q 34), .int 0, .int 0, .int 0, .int 0, .int 0])), (q 16, .inl (cI, 6, .inl (fun _ => 0)))] (skI D (skT cI cJ cC cZ cS) (fun (r : Int32) (u : va_W) => r = -1 ∧ u = [])) := by
  refine skM_of (by decide) (Nat.le_of_ble_eq_true rfl) ?_
  intro p e s m below meth c A ls E hP hD hl
  obtain ⟨hx, hb, hr, hml, hlocks, hin, hown, hts, hK, hA⟩ := E
  have hown : s.vm.findClass RX11 = some m.cls := hown
  have hS : va_S A s.heap s.heap [] := va_S.rf
  have hl : lv_has ls 4 [(0, .ref x0), (1, .int n)] := hl
  refine lv_aload_n hx hb dX11_chance_0 rfl (lv_at hl 0 rfl) ?_
  refine sk_Vi (q0 := 0) (n := 0) (rest := []) (wr := [(q 16, .inl (cI, 6, .inl (fun _ => 0)))]) ⟨hx, hb, hml, hown, hts⟩ hl.1 (c_x_isLocked l D cI cJ cC cZ cS x0 q) w_4_39 w_4_41 w_0_18 w_1_1 w_4_42 (by decide +kernel) ⟨⟨(Nat.le_of_ble_eq_true rfl), (Nat.le_of_ble_eq_true rfl)⟩, (Nat.le_of_ble_eq_true rfl), (Nat.le_of_ble_eq_true rfl)⟩ hK hP hD hS hA [0, 1] [2] rfl rfl (by decide) (by decide) (by decide) rfl rfl rfl rfl (Nat.le_of_ble_eq_true rfl) dX11_chance_1 (fun r_1 u H locs hw hP hD hS => ?_)
  obtain ⟨rfl, rfl⟩ := hw
  have hP : va_P D vwCl [(q 16, .inl (cI, 6, .inl (fun _ => 0))), (x0, .inr (11, [.ref (q 0), .ref (q 1), .ref (q 2), .ref (q 3), .ref (q 4), .ref (q 5), .ref (q 6), .ref (q 7), .ref (q 8), .ref (q 9), .ref (q 10), .ref (q 11), .ref (q 12), .ref (q 13), .ref (q 14), .int 0, .ref (q 16), .long 1])), (q 7, .inr (7, [.ref (q 33), .ref (q 34), .int 0, .int 0, .int 0, .int 0, .int 0]))] H := hP
  have hD : va_D A [(q 16, .inl (cI, 6, .inl (fun _ => 0))), (x0, .inr (11, [.ref (q 0), .ref (q 1), .ref (q 2), .ref (q 3), .ref (q 4), .ref (q 5), .ref (q 6), .ref (q 7), .ref (q 8), .ref (q 9), .ref (q 10), .ref (q 11), .ref (q 12), .ref (q 13), .ref (q 14), .int 0, .ref (q 16), .long 1])), (q 7, .inr (7, [.ref (q 33), .ref (q 34), .int 0, .int 0, .int 0, .int 0, .int 0]))] := hD
  refine W.widen (k := 0) (n := 0) (Nat.le_of_ble_eq_true rfl) (Nat.le_of_ble_eq_true rfl) ?_
  refine lv_if_eq (tgt := 33) hx hb dX11_chance_4 (by decide) (fun c_2 => ?_) (fun c => absurd c (by decide))
  refine lv_aload_n hx hb dX11_chance_33 rfl (lv_at hl 0 rfl) ?_
  refine lv_iconst (v := 3) hx hb dX11_chance_34 (by decide) ?_
  refine sk_Vi (q0 := 0) (n := 1) (rest := []) (wr := [(q 7, .inr (7, [.ref (q 33), .ref (q 34), .int 0, .int 0, .int 0, .int 0, .int 0]))]) ⟨hx, hb, hml, hown, hts⟩ hl.1 (c_x_refuse l D cI cJ cC cZ cS x0 q 3 (fun _ => 0) (by unfold vp_in; decide)) w_2_182 w_2_184 w_0_0 w_1_1 w_2_185 (by decide +kernel) ⟨⟨(Nat.le_of_ble_eq_true rfl), (Nat.le_of_ble_eq_true rfl)⟩, (Nat.le_of_ble_eq_true rfl), (Nat.le_of_ble_eq_true rfl)⟩ hK hP hD hS hA [1, 0] [2] rfl rfl (by decide) (by decide) (by decide) rfl rfl rfl rfl (Nat.le_of_ble_eq_true rfl) dX11_chance_35 (fun r_4 u H locs hw hP hD hS => ?_)
  obtain ⟨f2_3, rfl, rfl⟩ := hw
  have hP : va_P D vwCl [(q 7, .inr (7, [.ref (q 33), .ref (q 34), .int 0, .int 0, .int 0, .int 0, .int 0])), (x0, .inr (11, [.ref (q 0), .ref (q 1), .ref (q 2), .ref (q 3), .ref (q 4), .ref (q 5), .ref (q 6), .ref (q 7), .ref (q 8), .ref (q 9), .ref (q 10), .ref (q 11), .ref (q 12), .ref (q 13), .ref (q 14), .int 0, .ref (q 16), .long 1])), (q 16, .inl (cI, 6, .inl f2_3))] H := hP
  have hD : va_D A [(q 7, .inr (7, [.ref (q 33), .ref (q 34), .int 0, .int 0, .int 0, .int 0, .int 0])), (x0, .inr (11, [.ref (q 0), .ref (q 1), .ref (q 2), .ref (q 3), .ref (q 4), .ref (q 5), .ref (q 6), .ref (q 7), .ref (q 8), .ref (q 9), .ref (q 10), .ref (q 11), .ref (q 12), .ref (q 13), .ref (q 14), .int 0, .ref (q 16), .long 1])), (q 16, .inl (cI, 6, .inl f2_3))] := hD
  refine W.widen (k := 0) (n := 0) (Nat.le_of_ble_eq_true rfl) (Nat.le_of_ble_eq_true rfl) ?_
  have hP := hP.sub (ws' := []) [] rfl
  have hD := hD.sub (ws' := []) [] (by decide) rfl
  exact sk_iret hx hb hr rfl hlocks hK hP hD hS (⟨rfl, rfl⟩) (Nat.le_of_ble_eq_true rfl) (Nat.le_of_ble_eq_true rfl) dX11_chance_38
theorem dX4_restore_0 : decode cX4_restore 0 = .ok (.aload_n 0, 1) := by decide +kernel
theorem dX4_restore_1 : decode cX4_restore 1 = .ok (.getfield 17, 3) := by decide +kernel
theorem dX4_restore_4 : decode cX4_restore 4 = .ok (.ifCond .gt 5, 3) := by decide +kernel
theorem dX4_restore_7 : decode cX4_restore 7 = .ok (.iconst 0, 1) := by decide +kernel
theorem dX4_restore_8 : decode cX4_restore 8 = .ok (.ireturn, 1) := by decide +kernel
theorem w_5_54 : (Cond.code yX4_restore cX4_restore 2 (some .boolean)) ∈ wsL_law := sk_mem (ck_5 _ (List.mem_of_getElem? (i := 54) rfl)) rfl
set_option maxHeartbeats 4000000 in
set_option maxRecDepth 100000 in
theorem c_past_restore (l : Launch) (D : va_G) (cI cJ cC cZ cS : ClassId) (q : Nat → Nat)  : skM l yX4_restore cX4_restore 2 (some .boolean) 0 0 0 0 D (skT cI cJ cC cZ cS) [.ref (q 9), .ref (q 7)] [(q 9, .inr (4, [.ref (q 35), .int 0, .ref (q 36), .ref (q 37), .ref (q 38)]))] (skI D (skT cI cJ cC cZ cS) (fun (r : Int32) (u : va_W) => r = 0 ∧ u = [(q 9, .inr (4, [.ref (q 35), .int 0, .ref (q 36), .ref (q 37), .ref (q 38)]))])) := by
  refine skM_of (by decide) (Nat.le_of_ble_eq_true rfl) ?_
  intro p e s m below meth c A ls E hP hD hl
  obtain ⟨hx, hb, hr, hml, hlocks, hin, hown, hts, hK, hA⟩ := E
  have hown : s.vm.findClass RX4 = some m.cls := hown
  have hS : va_S A s.heap s.heap [] := va_S.rf
  have hl : lv_has ls 2 [(0, .ref (q 9)), (1, .ref (q 7))] := hl
  refine lv_aload_n hx hb dX4_restore_0 rfl (lv_at hl 0 rfl) ?_
  refine sk_get (v := .int 0) (C := RX4) (T := TX4) (N := 5) hx hb hts inlX4 hown hK hP 0 rfl rfl 1 (by decide) w_2_41 rfl dX4_restore_1 ?_
  refine lv_if_gt (tgt := 9) hx hb dX4_restore_4 (by decide) (fun c => absurd c (by decide)) (fun c_1 => ?_)
  refine lv_iconst (v := 0) hx hb dX4_restore_7 (by decide) ?_
  exact sk_iret hx hb hr rfl hlocks hK hP hD hS (⟨rfl, rfl⟩) (Nat.le_of_ble_eq_true rfl) (Nat.le_of_ble_eq_true rfl) dX4_restore_8
theorem dX11_undo_0 : decode cX11_undo 0 = .ok (.aload_n 0, 1) := by decide +kernel
theorem dX11_undo_1 : decode cX11_undo 1 = .ok (.getfield 69, 3) := by decide +kernel
theorem dX11_undo_4 : decode cX11_undo 4 = .ok (.aload_n 0, 1) := by decide +kernel
theorem dX11_undo_5 : decode cX11_undo 5 = .ok (.getfield 59, 3) := by decide +kernel
theorem dX11_undo_8 : decode cX11_undo 8 = .ok (.invokevirtual 295, 3) := by decide +kernel
theorem dX11_undo_11 : decode cX11_undo 11 = .ok (.ifCond .ne 9, 3) := by decide +kernel
theorem dX11_undo_14 : decode cX11_undo 14 = .ok (.aload_n 0, 1) := by decide +kernel
theorem dX11_undo_15 : decode cX11_undo 15 = .ok (.iconst 4, 1) := by decide +kernel
theorem dX11_undo_16 : decode cX11_undo 16 = .ok (.invokevirtual 120, 3) := by decide +kernel
theorem dX11_undo_19 : decode cX11_undo 19 = .ok (.ireturn, 1) := by decide +kernel
theorem w_5_51 : (Cond.methodLink RX11 295 yX4_restore) ∈ wsL_law := sk_mem (ck_5 _ (List.mem_of_getElem? (i := 51) rfl)) rfl
theorem w_5_52 : (Cond.instanceMethod yX4_restore) ∈ wsL_law := sk_mem (ck_5 _ (List.mem_of_getElem? (i := 52) rfl)) rfl
theorem w_5_53 : (Cond.selects RX4 yX4_restore yX4_restore) ∈ wsL_law := sk_mem (ck_5 _ (List.mem_of_getElem? (i := 53) rfl)) rfl
theorem w_5_50 : (Cond.code yX11_undo cX11_undo 1 (some .boolean)) ∈ wsL_law := sk_mem (ck_5 _ (List.mem_of_getElem? (i := 50) rfl)) rfl
set_option maxHeartbeats 4000000 in
set_option maxRecDepth 100000 in
theorem c_x_undo (l : Launch) (D : va_G) (cI cJ cC cZ cS : ClassId) (x0 : Nat) (q : Nat → Nat)  : skM l yX11_undo cX11_undo 1 (some .boolean) 1 21 0 0 D (skT cI cJ cC cZ cS) [.ref x0] [(x0, .inr (11, [.ref (q 0), .ref (q 1), .ref (q 2), .ref (q 3), .ref (q 4), .ref (q 5), .ref (q 6), .ref (q 7), .ref (q 8), .ref (q 9), .ref (q 10), .ref (q 11), .ref (q 12), .ref (q 13), .ref (q 14), .int 0, .ref (q 16), .long 1])), (q 9, .inr (4, [.ref (q 35), .int 0, .ref (q 36), .ref (q 37), .ref (q 38)])), (q 16, .inl (cI, 6, .inl (fun _ => 0)))] (skI D (skT cI cJ cC cZ cS) (fun (r : Int32) (u : va_W) => r = 0 ∧ u = [])) := by
  refine skM_of (by decide) (Nat.le_of_ble_eq_true rfl) ?_
  intro p e s m below meth c A ls E hP hD hl
  obtain ⟨hx, hb, hr, hml, hlocks, hin, hown, hts, hK, hA⟩ := E
  have hown : s.vm.findClass RX11 = some m.cls := hown
  have hS : va_S A s.heap s.heap [] := va_S.rf
  have hl : lv_has ls 1 [(0, .ref x0)] := hl
  refine lv_aload_n hx hb dX11_undo_0 rfl (lv_at hl 0 rfl) ?_
  refine sk_get (v := .ref (q 9)) (C := RX11) (T := TX11) (N := 18) hx hb hts inlX11 hown hK hP 0 rfl rfl 9 (by decide) w_2_132 rfl dX11_undo_1 ?_
  refine lv_aload_n hx hb dX11_undo_4 rfl (lv_at hl 0 rfl) ?_
  refine sk_get (v := .ref (q 7)) (C := RX11) (T := TX11) (N := 18) hx hb hts inlX11 hown hK hP 0 rfl rfl 7 (by decide) w_2_130 rfl dX11_undo_5 ?_
  refine sk_Vi (q0 := 0) (n := 1) (rest := []) (wr := [(x0, .inr (11, [.ref (q 0), .ref (q 1), .ref (q 2), .ref (q 3), .ref (q 4), .ref (q 5), .ref (q 6), .ref (q 7), .ref (q 8), .ref (q 9), .ref (q 10), .ref (q 11), .ref (q 12), .ref (q 13), .ref (q 14), .int 0, .ref (q 16), .long 1])), (q 16, .inl (cI, 6, .inl (fun _ => 0)))]) ⟨hx, hb, hml, hown, hts⟩ hl.1 (c_past_restore l D cI cJ cC cZ cS q) w_5_51 w_5_52 w_5_53 w_1_11 w_5_54 (by decide +kernel) ⟨⟨(Nat.le_of_ble_eq_true rfl), (Nat.le_of_ble_eq_true rfl)⟩, (Nat.le_of_ble_eq_true rfl), (Nat.le_of_ble_eq_true rfl)⟩ hK hP hD hS hA [1] [0, 2] rfl rfl (by decide) (by decide) (by decide) rfl rfl rfl rfl (Nat.le_of_ble_eq_true rfl) dX11_undo_8 (fun r_1 u H locs hw hP hD hS => ?_)
  obtain ⟨rfl, rfl⟩ := hw
  have hP : va_P D vwCl [(x0, .inr (11, [.ref (q 0), .ref (q 1), .ref (q 2), .ref (q 3), .ref (q 4), .ref (q 5), .ref (q 6), .ref (q 7), .ref (q 8), .ref (q 9), .ref (q 10), .ref (q 11), .ref (q 12), .ref (q 13), .ref (q 14), .int 0, .ref (q 16), .long 1])), (q 16, .inl (cI, 6, .inl (fun _ => 0))), (q 9, .inr (4, [.ref (q 35), .int 0, .ref (q 36), .ref (q 37), .ref (q 38)]))] H := hP
  have hD : va_D A [(x0, .inr (11, [.ref (q 0), .ref (q 1), .ref (q 2), .ref (q 3), .ref (q 4), .ref (q 5), .ref (q 6), .ref (q 7), .ref (q 8), .ref (q 9), .ref (q 10), .ref (q 11), .ref (q 12), .ref (q 13), .ref (q 14), .int 0, .ref (q 16), .long 1])), (q 16, .inl (cI, 6, .inl (fun _ => 0))), (q 9, .inr (4, [.ref (q 35), .int 0, .ref (q 36), .ref (q 37), .ref (q 38)]))] := hD
  refine W.widen (k := 0) (n := 0) (Nat.le_of_ble_eq_true rfl) (Nat.le_of_ble_eq_true rfl) ?_
  refine lv_if_ne (tgt := 20) hx hb dX11_undo_11 (by decide) (fun c => absurd c (by decide)) (fun c_2 => ?_)
  refine lv_aload_n hx hb dX11_undo_14 rfl (lv_at hl 0 rfl) ?_
  refine lv_iconst (v := 4) hx hb dX11_undo_15 (by decide) ?_
  refine sk_Vi (q0 := 0) (n := 1) (rest := []) (wr := [(q 9, .inr (4, [.ref (q 35), .int 0, .ref (q 36), .ref (q 37), .ref (q 38)]))]) ⟨hx, hb, hml, hown, hts⟩ hl.1 (c_x_refuseIt l D cI cJ cC cZ cS x0 q 4 (fun _ => 0) (by unfold vp_in; decide)) w_2_198 w_2_200 w_0_1 w_1_1 w_2_201 (by decide +kernel) ⟨⟨(Nat.le_of_ble_eq_true rfl), (Nat.le_of_ble_eq_true rfl)⟩, (Nat.le_of_ble_eq_true rfl), (Nat.le_of_ble_eq_true rfl)⟩ hK hP hD hS hA [0, 1] [2] rfl rfl (by decide) (by decide) (by decide) rfl rfl rfl rfl (Nat.le_of_ble_eq_true rfl) dX11_undo_16 (fun r_4 u H locs hw hP hD hS => ?_)
  obtain ⟨f2_3, rfl, rfl⟩ := hw
  have hP : va_P D vwCl [(q 9, .inr (4, [.ref (q 35), .int 0, .ref (q 36), .ref (q 37), .ref (q 38)])), (x0, .inr (11, [.ref (q 0), .ref (q 1), .ref (q 2), .ref (q 3), .ref (q 4), .ref (q 5), .ref (q 6), .ref (q 7), .ref (q 8), .ref (q 9), .ref (q 10), .ref (q 11), .ref (q 12), .ref (q 13), .ref (q 14), .int 0, .ref (q 16), .long 1])), (q 16, .inl (cI, 6, .inl f2_3))] H := hP
  have hD : va_D A [(q 9, .inr (4, [.ref (q 35), .int 0, .ref (q 36), .ref (q 37), .ref (q 38)])), (x0, .inr (11, [.ref (q 0), .ref (q 1), .ref (q 2), .ref (q 3), .ref (q 4), .ref (q 5), .ref (q 6), .ref (q 7), .ref (q 8), .ref (q 9), .ref (q 10), .ref (q 11), .ref (q 12), .ref (q 13), .ref (q 14), .int 0, .ref (q 16), .long 1])), (q 16, .inl (cI, 6, .inl f2_3))] := hD
  refine W.widen (k := 0) (n := 0) (Nat.le_of_ble_eq_true rfl) (Nat.le_of_ble_eq_true rfl) ?_
  have hP := hP.sub (ws' := []) [] rfl
  have hD := hD.sub (ws' := []) [] (by decide) rfl
  exact sk_iret hx hb hr rfl hlocks hK hP hD hS (⟨rfl, rfl⟩) (Nat.le_of_ble_eq_true rfl) (Nat.le_of_ble_eq_true rfl) dX11_undo_19
theorem dX11_seed_0 : decode cX11_seed 0 = .ok (.iload_n 1, 1) := by decide +kernel
theorem dX11_seed_1 : decode cX11_seed 1 = .ok (.ifCond .ge 9, 3) := by decide +kernel
theorem dX11_seed_10 : decode cX11_seed 10 = .ok (.aload_n 0, 1) := by decide +kernel
theorem dX11_seed_11 : decode cX11_seed 11 = .ok (.iload_n 1, 1) := by decide +kernel
theorem dX11_seed_12 : decode cX11_seed 12 = .ok (.i2l, 1) := by decide +kernel
theorem dX11_seed_13 : decode cX11_seed 13 = .ok (.putfield 106, 3) := by decide +kernel
theorem dX11_seed_16 : decode cX11_seed 16 = .ok (.iconst 1, 1) := by decide +kernel
theorem dX11_seed_17 : decode cX11_seed 17 = .ok (.ireturn, 1) := by decide +kernel
theorem dX11_seed_4 : decode cX11_seed 4 = .ok (.aload_n 0, 1) := by decide +kernel
theorem dX11_seed_5 : decode cX11_seed 5 = .ok (.iconst 5, 1) := by decide +kernel
theorem dX11_seed_6 : decode cX11_seed 6 = .ok (.invokevirtual 120, 3) := by decide +kernel
theorem dX11_seed_9 : decode cX11_seed 9 = .ok (.ireturn, 1) := by decide +kernel
theorem w_5_58 : (Cond.code yX11_seed cX11_seed 2 (some .boolean)) ∈ wsL_law := sk_mem (ck_5 _ (List.mem_of_getElem? (i := 58) rfl)) rfl
set_option maxHeartbeats 4000000 in
set_option maxRecDepth 100000 in
theorem c_x_seed (l : Launch) (D : va_G) (cI cJ cC cZ cS : ClassId) (x0 : Nat) (q : Nat → Nat) (n : Int32)  : skM l yX11_seed cX11_seed 2 (some .boolean) 1 21 0 0 D (skT cI cJ cC cZ cS) [.ref x0, .int n] [(x0, .inr (11, [.ref (q 0), .ref (q 1), .ref (q 2), .ref (q 3), .ref (q 4), .ref (q 5), .ref (q 6), .ref (q 7), .ref (q 8), .ref (q 9), .ref (q 10), .ref (q 11), .ref (q 12), .ref (q 13), .ref (q 14), .int 0, .ref (q 16), .long 1])), (q 16, .inl (cI, 6, .inl (fun _ => 0)))] (skI D (skT cI cJ cC cZ cS) (fun (r : Int32) (u : va_W) => r = sp_seed n ∧ u = [])) := by
  refine skM_of (by decide) (Nat.le_of_ble_eq_true rfl) ?_
  intro p e s m below meth c A ls E hP hD hl
  obtain ⟨hx, hb, hr, hml, hlocks, hin, hown, hts, hK, hA⟩ := E
  have hown : s.vm.findClass RX11 = some m.cls := hown
  have hS : va_S A s.heap s.heap [] := va_S.rf
  have hl : lv_has ls 2 [(0, .ref x0), (1, .int n)] := hl
  refine lv_iload_n hx hb dX11_seed_0 rfl (lv_at hl 1 rfl) ?_
  refine lv_if_ge (tgt := 10) hx hb dX11_seed_1 (by decide) (fun c_1 => ?_) (fun c_1 => ?_)
  · refine lv_aload_n hx hb dX11_seed_10 rfl (lv_at hl 0 rfl) ?_
    refine lv_iload_n hx hb dX11_seed_11 rfl (lv_at hl 1 rfl) ?_
    refine lv_i2l hx hb dX11_seed_12 rfl ?_
    refine sk_put (ws' := [(x0, .inr (11, [.ref (q 0), .ref (q 1), .ref (q 2), .ref (q 3), .ref (q 4), .ref (q 5), .ref (q 6), .ref (q 7), .ref (q 8), .ref (q 9), .ref (q 10), .ref (q 11), .ref (q 12), .ref (q 13), .ref (q 14), .int 0, .ref (q 16), .long (Int32.toInt64 n)])), (q 16, .inl (cI, 6, .inl (fun _ => 0)))]) (C := RX11) (T := TX11) (N := 18) (v := .long (Int32.toInt64 n)) hx hb hts inlX11 tyX11 tyX11_ok nmX11 hown hK hP hD hS 0 rfl rfl 17 (by decide) w_2_140 rfl rfl rfl (Nat.le_of_ble_eq_true rfl) rfl dX11_seed_13 (fun H locs hP hD hS => ?_)
    refine lv_iconst (v := 1) hx hb dX11_seed_16 (by decide) ?_
    have hP := hP.sub (ws' := []) [] rfl
    have hD := hD.sub (ws' := []) [] (by decide) rfl
    exact sk_iret hx hb hr rfl hlocks hK hP hD hS (⟨by simp only [sp_seed, if_pos c_1], rfl⟩) (Nat.le_of_ble_eq_true rfl) (Nat.le_of_ble_eq_true rfl) dX11_seed_17
  · refine lv_aload_n hx hb dX11_seed_4 rfl (lv_at hl 0 rfl) ?_
    refine lv_iconst (v := 5) hx hb dX11_seed_5 (by decide) ?_
    refine sk_Vi (q0 := 0) (n := 1) (rest := []) (wr := []) ⟨hx, hb, hml, hown, hts⟩ hl.1 (c_x_refuseIt l D cI cJ cC cZ cS x0 q 5 (fun _ => 0) (by unfold vp_in; decide)) w_2_198 w_2_200 w_0_1 w_1_1 w_2_201 (by decide +kernel) ⟨⟨(Nat.le_of_ble_eq_true rfl), (Nat.le_of_ble_eq_true rfl)⟩, (Nat.le_of_ble_eq_true rfl), (Nat.le_of_ble_eq_true rfl)⟩ hK hP hD hS hA [0, 1] [] rfl rfl (by decide) (by decide) (by decide) rfl rfl rfl rfl (Nat.le_of_ble_eq_true rfl) dX11_seed_6 (fun r_3 u H locs hw hP hD hS => ?_)
    obtain ⟨f2_2, rfl, rfl⟩ := hw
    have hP : va_P D vwCl [(x0, .inr (11, [.ref (q 0), .ref (q 1), .ref (q 2), .ref (q 3), .ref (q 4), .ref (q 5), .ref (q 6), .ref (q 7), .ref (q 8), .ref (q 9), .ref (q 10), .ref (q 11), .ref (q 12), .ref (q 13), .ref (q 14), .int 0, .ref (q 16), .long 1])), (q 16, .inl (cI, 6, .inl f2_2))] H := hP
    have hD : va_D A [(x0, .inr (11, [.ref (q 0), .ref (q 1), .ref (q 2), .ref (q 3), .ref (q 4), .ref (q 5), .ref (q 6), .ref (q 7), .ref (q 8), .ref (q 9), .ref (q 10), .ref (q 11), .ref (q 12), .ref (q 13), .ref (q 14), .int 0, .ref (q 16), .long 1])), (q 16, .inl (cI, 6, .inl f2_2))] := hD
    refine W.widen (k := 0) (n := 0) (Nat.le_of_ble_eq_true rfl) (Nat.le_of_ble_eq_true rfl) ?_
    have hP := hP.sub (ws' := []) [] rfl
    have hD := hD.sub (ws' := []) [] (by decide) rfl
    exact sk_iret hx hb hr rfl hlocks hK hP hD hS (⟨by simp only [sp_seed, if_neg c_1], rfl⟩) (Nat.le_of_ble_eq_true rfl) (Nat.le_of_ble_eq_true rfl) dX11_seed_9
theorem dX11_ask_0 : decode cX11_ask 0 = .ok (.aload_n 0, 1) := by decide +kernel
theorem dX11_ask_1 : decode cX11_ask 1 = .ok (.invokevirtual 204, 3) := by decide +kernel
theorem dX11_ask_4 : decode cX11_ask 4 = .ok (.ifCond .ne 15, 3) := by decide +kernel
theorem dX11_ask_7 : decode cX11_ask 7 = .ok (.aload_n 0, 1) := by decide +kernel
theorem dX11_ask_8 : decode cX11_ask 8 = .ok (.getfield 12, 3) := by decide +kernel
theorem dX11_ask_11 : decode cX11_ask 11 = .ok (.iconst 0, 1) := by decide +kernel
theorem dX11_ask_12 : decode cX11_ask 12 = .ok (.putfield 110, 3) := by decide +kernel
theorem dX11_ask_15 : decode cX11_ask 15 = .ok (.ldc2_w 198, 3) := by decide +kernel
theorem dX11_ask_18 : decode cX11_ask 18 = .ok (.lreturn, 1) := by decide +kernel
theorem w_5_62 : (Cond.code yX11_ask cX11_ask 1 (some .long)) ∈ wsL_law := sk_mem (ck_5 _ (List.mem_of_getElem? (i := 62) rfl)) rfl
set_option maxHeartbeats 4000000 in
set_option maxRecDepth 100000 in
theorem c_x_ask (l : Launch) (D : va_G) (cI cJ cC cZ cS : ClassId) (x0 : Nat) (q : Nat → Nat)  : skM l yX11_ask cX11_ask 1 (some .long) 1 20 0 0 D (skT cI cJ cC cZ cS) [.ref x0] [(x0, .inr (11, [.ref (q 0), .ref (q 1), .ref (q 2), .ref (q 3), .ref (q 4), .ref (q 5), .ref (q 6), .ref (q 7), .ref (q 8), .ref (q 9), .ref (q 10), .ref (q 11), .ref (q 12), .ref (q 13), .ref (q 14), .int 0, .ref (q 16), .long 1])), (q 7, .inr (7, [.ref (q 33), .ref (q 34), .int 0, .int 0, .int 0, .int 0, .int 0])), (q 0, .inr (10, [.ref (q 20), .int 0]))] (skL D (skT cI cJ cC cZ cS) (fun (r : Int64) (u : va_W) => r = -1000000000000000 ∧ u = [])) := by
  refine skM_of (by decide) (Nat.le_of_ble_eq_true rfl) ?_
  intro p e s m below meth c A ls E hP hD hl
  obtain ⟨hx, hb, hr, hml, hlocks, hin, hown, hts, hK, hA⟩ := E
  have hown : s.vm.findClass RX11 = some m.cls := hown
  have hS : va_S A s.heap s.heap [] := va_S.rf
  have hl : lv_has ls 1 [(0, .ref x0)] := hl
  refine lv_aload_n hx hb dX11_ask_0 rfl (lv_at hl 0 rfl) ?_
  refine sk_Vi (q0 := 0) (n := 0) (rest := []) (wr := [(q 0, .inr (10, [.ref (q 20), .int 0]))]) ⟨hx, hb, hml, hown, hts⟩ hl.1 (c_x_isLocked l D cI cJ cC cZ cS x0 q) w_4_39 w_4_41 w_0_18 w_1_1 w_4_42 (by decide +kernel) ⟨⟨(Nat.le_of_ble_eq_true rfl), (Nat.le_of_ble_eq_true rfl)⟩, (Nat.le_of_ble_eq_true rfl), (Nat.le_of_ble_eq_true rfl)⟩ hK hP hD hS hA [0, 1] [2] rfl rfl (by decide) (by decide) (by decide) rfl rfl rfl rfl (Nat.le_of_ble_eq_true rfl) dX11_ask_1 (fun r_1 u H locs hw hP hD hS => ?_)
  obtain ⟨rfl, rfl⟩ := hw
  have hP : va_P D vwCl [(q 0, .inr (10, [.ref (q 20), .int 0])), (x0, .inr (11, [.ref (q 0), .ref (q 1), .ref (q 2), .ref (q 3), .ref (q 4), .ref (q 5), .ref (q 6), .ref (q 7), .ref (q 8), .ref (q 9), .ref (q 10), .ref (q 11), .ref (q 12), .ref (q 13), .ref (q 14), .int 0, .ref (q 16), .long 1])), (q 7, .inr (7, [.ref (q 33), .ref (q 34), .int 0, .int 0, .int 0, .int 0, .int 0]))] H := hP
  have hD : va_D A [(q 0, .inr (10, [.ref (q 20), .int 0])), (x0, .inr (11, [.ref (q 0), .ref (q 1), .ref (q 2), .ref (q 3), .ref (q 4), .ref (q 5), .ref (q 6), .ref (q 7), .ref (q 8), .ref (q 9), .ref (q 10), .ref (q 11), .ref (q 12), .ref (q 13), .ref (q 14), .int 0, .ref (q 16), .long 1])), (q 7, .inr (7, [.ref (q 33), .ref (q 34), .int 0, .int 0, .int 0, .int 0, .int 0]))] := hD
  refine W.widen (k := 0) (n := 0) (Nat.le_of_ble_eq_true rfl) (Nat.le_of_ble_eq_true rfl) ?_
  refine lv_if_ne (tgt := 19) hx hb dX11_ask_4 (by decide) (fun c => absurd c (by decide)) (fun c_2 => ?_)
  refine lv_aload_n hx hb dX11_ask_7 rfl (lv_at hl 0 rfl) ?_
  refine sk_get (v := .ref (q 0)) (C := RX11) (T := TX11) (N := 18) hx hb hts inlX11 hown hK hP 1 rfl rfl 0 (by decide) w_2_123 rfl dX11_ask_8 ?_
  refine lv_iconst (v := 0) hx hb dX11_ask_11 (by decide) ?_
  refine sk_put (ws' := [(q 0, .inr (10, [.ref (q 20), .int 0])), (x0, .inr (11, [.ref (q 0), .ref (q 1), .ref (q 2), .ref (q 3), .ref (q 4), .ref (q 5), .ref (q 6), .ref (q 7), .ref (q 8), .ref (q 9), .ref (q 10), .ref (q 11), .ref (q 12), .ref (q 13), .ref (q 14), .int 0, .ref (q 16), .long 1])), (q 7, .inr (7, [.ref (q 33), .ref (q 34), .int 0, .int 0, .int 0, .int 0, .int 0]))]) (C := RX10) (T := TX10) (N := 2) (v := .int 0) hx hb hts inlX10 tyX10 tyX10_ok nmX10 hown hK hP hD hS 0 rfl rfl 1 (by decide) w_1_42 rfl rfl rfl (Nat.le_of_ble_eq_true rfl) rfl dX11_ask_12 (fun H locs hP hD hS => ?_)
  refine lv_ldc2 (v := (-1000000000000000)) hx hb hown (hts _ w_4_29) dX11_ask_15 ?_
  have hP := hP.sub (ws' := []) [] rfl
  have hD := hD.sub (ws' := []) [] (by decide) rfl
  exact sk_lret hx hb hr hlocks hK hP hD hS (⟨rfl, rfl⟩) (Nat.le_of_ble_eq_true rfl) (Nat.le_of_ble_eq_true rfl) dX11_ask_18
theorem dX10_left_0 : decode cX10_left 0 = .ok (.iload_n 1, 1) := by decide +kernel
theorem dX10_left_1 : decode cX10_left 1 = .ok (.ifCond .lt 21, 3) := by decide +kernel
theorem dX10_left_4 : decode cX10_left 4 = .ok (.iload_n 1, 1) := by decide +kernel
theorem dX10_left_5 : decode cX10_left 5 = .ok (.aload_n 0, 1) := by decide +kernel
theorem dX10_left_6 : decode cX10_left 6 = .ok (.getfield 19, 3) := by decide +kernel
theorem dX10_left_9 : decode cX10_left 9 = .ok (.arraylength, 1) := by decide +kernel
theorem dX10_left_10 : decode cX10_left 10 = .ok (.if_icmp .ge 12, 3) := by decide +kernel
theorem dX10_left_13 : decode cX10_left 13 = .ok (.aload_n 0, 1) := by decide +kernel
theorem dX10_left_14 : decode cX10_left 14 = .ok (.getfield 19, 3) := by decide +kernel
theorem dX10_left_17 : decode cX10_left 17 = .ok (.iload_n 1, 1) := by decide +kernel
theorem dX10_left_18 : decode cX10_left 18 = .ok (.iaload, 1) := by decide +kernel
theorem dX10_left_19 : decode cX10_left 19 = .ok (.goto 4, 3) := by decide +kernel
theorem dX10_left_23 : decode cX10_left 23 = .ok (.ireturn, 1) := by decide +kernel
theorem w_4_217 : (Cond.code yX10_left cX10_left 2 (some .int)) ∈ wsL_law := sk_mem (ck_4 _ (List.mem_of_getElem? (i := 217) rfl)) rfl
set_option maxHeartbeats 4000000 in
set_option maxRecDepth 100000 in
theorem c_tp_left (l : Launch) (D : va_G) (cI cJ cC cZ cS : ClassId) (q : Nat → Nat) (ln : Int32) (f : Nat → Int32) (i : Int32) (h0 : ¬ i < 0) (h1 : ¬ (31 : Int32) ≤ i) (hv : vp_in i 31) : skM l yX10_left cX10_left 2 (some .int) 0 0 0 0 D (skT cI cJ cC cZ cS) [.ref (q 1), .int i] [(q 1, .inr (10, [.ref (q 21), .int ln])), (q 21, .inl (cI, 31, .inl f))] (skI D (skT cI cJ cC cZ cS) (fun (r : Int32) (u : va_W) => u = [(q 1, .inr (10, [.ref (q 21), .int ln])), (q 21, .inl (cI, 31, .inl f))])) := by
  refine skM_of (by decide) (Nat.le_of_ble_eq_true rfl) ?_
  intro p e s m below meth c A ls E hP hD hl
  obtain ⟨hx, hb, hr, hml, hlocks, hin, hown, hts, hK, hA⟩ := E
  have hown : s.vm.findClass RX10 = some m.cls := hown
  have hS : va_S A s.heap s.heap [] := va_S.rf
  have hl : lv_has ls 2 [(0, .ref (q 1)), (1, .int i)] := hl
  refine lv_iload_n hx hb dX10_left_0 rfl (lv_at hl 1 rfl) ?_
  refine lv_if_lt (tgt := 22) hx hb dX10_left_1 (by decide) (fun c => absurd c (h0)) (fun c_1 => ?_)
  refine lv_iload_n hx hb dX10_left_4 rfl (lv_at hl 1 rfl) ?_
  refine lv_aload_n hx hb dX10_left_5 rfl (lv_at hl 0 rfl) ?_
  refine sk_get (v := .ref (q 21)) (C := RX10) (T := TX10) (N := 2) hx hb hts inlX10 hown hK hP 0 rfl rfl 0 (by decide) w_1_39 rfl dX10_left_6 ?_
  refine va_alen (v := 31) hx hb hK.1 hP 1 0 rfl rfl rfl dX10_left_9 ?_
  refine lv_icmp_ge (tgt := 22) hx hb dX10_left_10 (by decide) (fun c => absurd c (h1)) (fun c_2 => ?_)
  refine lv_aload_n hx hb dX10_left_13 rfl (lv_at hl 0 rfl) ?_
  refine sk_get (v := .ref (q 21)) (C := RX10) (T := TX10) (N := 2) hx hb hts inlX10 hown hK hP 0 rfl rfl 0 (by decide) w_1_39 rfl dX10_left_14 ?_
  refine lv_iload_n hx hb dX10_left_17 rfl (lv_at hl 1 rfl) ?_
  refine va_iald hx hb hK.1 hP 1 0 rfl rfl hv dX10_left_18 ?_
  refine lv_topi (fun v_3 ev_3 => ?_)
  refine lv_goto (tgt := 23) hx hb dX10_left_19 (by decide) ?_
  exact sk_iret hx hb hr rfl hlocks hK hP hD hS rfl (Nat.le_of_ble_eq_true rfl) (Nat.le_of_ble_eq_true rfl) dX10_left_23
theorem dX10_checkOf_0 : decode cX10_checkOf 0 = .ok (.sipush 139, 3) := by decide +kernel
theorem dX10_checkOf_3 : decode cX10_checkOf 3 = .ok (.istore_n 2, 1) := by decide +kernel
theorem dX10_checkOf_4 : decode cX10_checkOf 4 = .ok (.iconst 0, 1) := by decide +kernel
theorem dX10_checkOf_5 : decode cX10_checkOf 5 = .ok (.istore_n 3, 1) := by decide +kernel
theorem dX10_checkOf_6 : decode cX10_checkOf 6 = .ok (.iload_n 3, 1) := by decide +kernel
theorem dX10_checkOf_7 : decode cX10_checkOf 7 = .ok (.iload_n 1, 1) := by decide +kernel
theorem dX10_checkOf_8 : decode cX10_checkOf 8 = .ok (.if_icmp .ge 23, 3) := by decide +kernel
theorem dX10_checkOf_11 : decode cX10_checkOf 11 = .ok (.iconst 3, 1) := by decide +kernel
theorem dX10_checkOf_12 : decode cX10_checkOf 12 = .ok (.iload_n 2, 1) := by decide +kernel
theorem dX10_checkOf_13 : decode cX10_checkOf 13 = .ok (.imul, 1) := by decide +kernel
theorem dX10_checkOf_14 : decode cX10_checkOf 14 = .ok (.aload_n 0, 1) := by decide +kernel
theorem dX10_checkOf_15 : decode cX10_checkOf 15 = .ok (.iload_n 3, 1) := by decide +kernel
theorem dX10_checkOf_16 : decode cX10_checkOf 16 = .ok (.invokevirtual 27, 3) := by decide +kernel
theorem dX10_checkOf_19 : decode cX10_checkOf 19 = .ok (.iadd, 1) := by decide +kernel
theorem dX10_checkOf_20 : decode cX10_checkOf 20 = .ok (.sipush 251, 3) := by decide +kernel
theorem dX10_checkOf_23 : decode cX10_checkOf 23 = .ok (.irem, 1) := by decide +kernel
theorem dX10_checkOf_24 : decode cX10_checkOf 24 = .ok (.istore_n 2, 1) := by decide +kernel
theorem dX10_checkOf_25 : decode cX10_checkOf 25 = .ok (.iinc 3 1, 3) := by decide +kernel
theorem dX10_checkOf_28 : decode cX10_checkOf 28 = .ok (.goto (-22), 3) := by decide +kernel
theorem dX10_checkOf_31 : decode cX10_checkOf 31 = .ok (.iload_n 2, 1) := by decide +kernel
theorem dX10_checkOf_32 : decode cX10_checkOf 32 = .ok (.ireturn, 1) := by decide +kernel
theorem w_5_132 : (Cond.methodLink RX10 27 yX10_left) ∈ wsL_law := sk_mem (ck_5 _ (List.mem_of_getElem? (i := 132) rfl)) rfl
theorem w_4_215 : (Cond.instanceMethod yX10_left) ∈ wsL_law := sk_mem (ck_4 _ (List.mem_of_getElem? (i := 215) rfl)) rfl
theorem w_4_216 : (Cond.selects RX10 yX10_left yX10_left) ∈ wsL_law := sk_mem (ck_4 _ (List.mem_of_getElem? (i := 216) rfl)) rfl
theorem w_5_131 : (Cond.code yX10_checkOf cX10_checkOf 4 (some .int)) ∈ wsL_law := sk_mem (ck_5 _ (List.mem_of_getElem? (i := 131) rfl)) rfl
set_option maxHeartbeats 4000000 in
set_option maxRecDepth 100000 in
theorem c_tp_checkOf (l : Launch) (D : va_G) (cI cJ cC cZ cS : ClassId) (q : Nat → Nat) (ln : Int32) (f : Nat → Int32)  : skM l yX10_checkOf cX10_checkOf 4 (some .int) 1 21 0 0 D (skT cI cJ cC cZ cS) [.ref (q 1), .int 3] [(q 1, .inr (10, [.ref (q 21), .int ln])), (q 21, .inl (cI, 31, .inl f))] (skI D (skT cI cJ cC cZ cS) (fun (r : Int32) (u : va_W) => u = [(q 1, .inr (10, [.ref (q 21), .int ln])), (q 21, .inl (cI, 31, .inl f))])) := by
  refine skM_of (by decide) (Nat.le_of_ble_eq_true rfl) ?_
  intro p e s m below meth c A ls E hP hD hl
  obtain ⟨hx, hb, hr, hml, hlocks, hin, hown, hts, hK, hA⟩ := E
  have hown : s.vm.findClass RX10 = some m.cls := hown
  have hS : va_S A s.heap s.heap [] := va_S.rf
  have hl : lv_has ls 4 [(0, .ref (q 1)), (1, .int 3)] := hl
  refine lv_sipush (v := 139) hx hb dX10_checkOf_0 (by decide) ?_
  refine lv_istore_n (lv' := [(2, .int 139), (0, .ref (q 1)), (1, .int 3)]) hx hb dX10_checkOf_3 rfl hl (by decide) rfl (fun ls hl => ?_)
  refine lv_iconst (v := 0) hx hb dX10_checkOf_4 (by decide) ?_
  refine lv_istore_n (lv' := [(3, .int 0), (2, .int 139), (0, .ref (q 1)), (1, .int 3)]) hx hb dX10_checkOf_5 rfl hl (by decide) rfl (fun ls hl => ?_)
  refine lv_iload_n hx hb dX10_checkOf_6 rfl (lv_at hl 0 rfl) ?_
  refine lv_iload_n hx hb dX10_checkOf_7 rfl (lv_at hl 3 rfl) ?_
  refine lv_icmp_ge (tgt := 31) hx hb dX10_checkOf_8 (by decide) (fun c => absurd c (by decide)) (fun c_1 => ?_)
  refine lv_iconst (v := 3) hx hb dX10_checkOf_11 (by decide) ?_
  refine lv_iload_n hx hb dX10_checkOf_12 rfl (lv_at hl 1 rfl) ?_
  refine lv_imul hx hb dX10_checkOf_13 ?_
  refine sk_top 417 (by decide) ?_
  refine lv_aload_n hx hb dX10_checkOf_14 rfl (lv_at hl 2 rfl) ?_
  refine lv_iload_n hx hb dX10_checkOf_15 rfl (lv_at hl 0 rfl) ?_
  refine sk_Vi (q0 := 0) (n := 1) (rest := [.int 417]) (wr := []) ⟨hx, hb, hml, hown, hts⟩ hl.1 (c_tp_left l D cI cJ cC cZ cS q ln f 0 (by decide) (by decide) (by unfold vp_in; decide)) w_5_132 w_4_215 w_4_216 w_1_2 w_4_217 (by decide +kernel) ⟨⟨(Nat.le_of_ble_eq_true rfl), (Nat.le_of_ble_eq_true rfl)⟩, (Nat.le_of_ble_eq_true rfl), (Nat.le_of_ble_eq_true rfl)⟩ hK hP hD hS hA [0, 1] [] rfl rfl (by decide) (by decide) (by decide) rfl rfl rfl rfl (Nat.le_of_ble_eq_true rfl) dX10_checkOf_16 (fun r_2 u H locs hw hP hD hS => ?_)
  obtain rfl := hw
  have hP : va_P D vwCl [(q 1, .inr (10, [.ref (q 21), .int ln])), (q 21, .inl (cI, 31, .inl f))] H := hP
  have hD : va_D A [(q 1, .inr (10, [.ref (q 21), .int ln])), (q 21, .inl (cI, 31, .inl f))] := hD
  refine W.widen (k := 0) (n := 0) (Nat.le_of_ble_eq_true rfl) (Nat.le_of_ble_eq_true rfl) ?_
  refine lv_iadd hx hb dX10_checkOf_19 ?_
  refine lv_topi (fun v_3 ev_3 => ?_)
  refine lv_sipush (v := 251) hx hb dX10_checkOf_20 (by decide) ?_
  refine lv_irem hx hb dX10_checkOf_23 (by decide) ?_
  refine lv_topi (fun v_4 ev_4 => ?_)
  refine lv_istore_n (lv' := [(2, .int v_4), (3, .int 0), (0, .ref (q 1)), (1, .int 3)]) hx hb dX10_checkOf_24 rfl hl (by decide) rfl (fun ls hl => ?_)
  refine lv_iinc (v := 1) (lv' := [(3, .int 1), (2, .int v_4), (0, .ref (q 1)), (1, .int 3)]) hx hb dX10_checkOf_25 hl (k := 1) rfl (by decide) (by decide) rfl (fun ls hl => ?_)
  refine lv_goto (tgt := 6) hx hb dX10_checkOf_28 (by decide) ?_
  refine lv_iload_n hx hb dX10_checkOf_6 rfl (lv_at hl 0 rfl) ?_
  refine lv_iload_n hx hb dX10_checkOf_7 rfl (lv_at hl 3 rfl) ?_
  refine lv_icmp_ge (tgt := 31) hx hb dX10_checkOf_8 (by decide) (fun c => absurd c (by decide)) (fun c_5 => ?_)
  refine lv_iconst (v := 3) hx hb dX10_checkOf_11 (by decide) ?_
  refine lv_iload_n hx hb dX10_checkOf_12 rfl (lv_at hl 1 rfl) ?_
  refine lv_imul hx hb dX10_checkOf_13 ?_
  refine lv_topi (fun v_6 ev_6 => ?_)
  refine lv_aload_n hx hb dX10_checkOf_14 rfl (lv_at hl 2 rfl) ?_
  refine lv_iload_n hx hb dX10_checkOf_15 rfl (lv_at hl 0 rfl) ?_
  refine sk_Vi (q0 := 0) (n := 1) (rest := [.int v_6]) (wr := []) ⟨hx, hb, hml, hown, hts⟩ hl.1 (c_tp_left l D cI cJ cC cZ cS q ln f 1 (by decide) (by decide) (by unfold vp_in; decide)) w_5_132 w_4_215 w_4_216 w_1_2 w_4_217 (by decide +kernel) ⟨⟨(Nat.le_of_ble_eq_true rfl), (Nat.le_of_ble_eq_true rfl)⟩, (Nat.le_of_ble_eq_true rfl), (Nat.le_of_ble_eq_true rfl)⟩ hK hP hD hS hA [0, 1] [] rfl rfl (by decide) (by decide) (by decide) rfl rfl rfl rfl (Nat.le_of_ble_eq_true rfl) dX10_checkOf_16 (fun r_7 u H locs hw hP hD hS => ?_)
  obtain rfl := hw
  have hP : va_P D vwCl [(q 1, .inr (10, [.ref (q 21), .int ln])), (q 21, .inl (cI, 31, .inl f))] H := hP
  have hD : va_D A [(q 1, .inr (10, [.ref (q 21), .int ln])), (q 21, .inl (cI, 31, .inl f))] := hD
  refine W.widen (k := 0) (n := 0) (Nat.le_of_ble_eq_true rfl) (Nat.le_of_ble_eq_true rfl) ?_
  refine lv_iadd hx hb dX10_checkOf_19 ?_
  refine lv_topi (fun v_8 ev_8 => ?_)
  refine lv_sipush (v := 251) hx hb dX10_checkOf_20 (by decide) ?_
  refine lv_irem hx hb dX10_checkOf_23 (by decide) ?_
  refine lv_topi (fun v_9 ev_9 => ?_)
  refine lv_istore_n (lv' := [(2, .int v_9), (3, .int 1), (0, .ref (q 1)), (1, .int 3)]) hx hb dX10_checkOf_24 rfl hl (by decide) rfl (fun ls hl => ?_)
  refine lv_iinc (v := 2) (lv' := [(3, .int 2), (2, .int v_9), (0, .ref (q 1)), (1, .int 3)]) hx hb dX10_checkOf_25 hl (k := 1) rfl (by decide) (by decide) rfl (fun ls hl => ?_)
  refine lv_goto (tgt := 6) hx hb dX10_checkOf_28 (by decide) ?_
  refine lv_iload_n hx hb dX10_checkOf_6 rfl (lv_at hl 0 rfl) ?_
  refine lv_iload_n hx hb dX10_checkOf_7 rfl (lv_at hl 3 rfl) ?_
  refine lv_icmp_ge (tgt := 31) hx hb dX10_checkOf_8 (by decide) (fun c => absurd c (by decide)) (fun c_10 => ?_)
  refine lv_iconst (v := 3) hx hb dX10_checkOf_11 (by decide) ?_
  refine lv_iload_n hx hb dX10_checkOf_12 rfl (lv_at hl 1 rfl) ?_
  refine lv_imul hx hb dX10_checkOf_13 ?_
  refine lv_topi (fun v_11 ev_11 => ?_)
  refine lv_aload_n hx hb dX10_checkOf_14 rfl (lv_at hl 2 rfl) ?_
  refine lv_iload_n hx hb dX10_checkOf_15 rfl (lv_at hl 0 rfl) ?_
  refine sk_Vi (q0 := 0) (n := 1) (rest := [.int v_11]) (wr := []) ⟨hx, hb, hml, hown, hts⟩ hl.1 (c_tp_left l D cI cJ cC cZ cS q ln f 2 (by decide) (by decide) (by unfold vp_in; decide)) w_5_132 w_4_215 w_4_216 w_1_2 w_4_217 (by decide +kernel) ⟨⟨(Nat.le_of_ble_eq_true rfl), (Nat.le_of_ble_eq_true rfl)⟩, (Nat.le_of_ble_eq_true rfl), (Nat.le_of_ble_eq_true rfl)⟩ hK hP hD hS hA [0, 1] [] rfl rfl (by decide) (by decide) (by decide) rfl rfl rfl rfl (Nat.le_of_ble_eq_true rfl) dX10_checkOf_16 (fun r_12 u H locs hw hP hD hS => ?_)
  obtain rfl := hw
  have hP : va_P D vwCl [(q 1, .inr (10, [.ref (q 21), .int ln])), (q 21, .inl (cI, 31, .inl f))] H := hP
  have hD : va_D A [(q 1, .inr (10, [.ref (q 21), .int ln])), (q 21, .inl (cI, 31, .inl f))] := hD
  refine W.widen (k := 0) (n := 0) (Nat.le_of_ble_eq_true rfl) (Nat.le_of_ble_eq_true rfl) ?_
  refine lv_iadd hx hb dX10_checkOf_19 ?_
  refine lv_topi (fun v_13 ev_13 => ?_)
  refine lv_sipush (v := 251) hx hb dX10_checkOf_20 (by decide) ?_
  refine lv_irem hx hb dX10_checkOf_23 (by decide) ?_
  refine lv_topi (fun v_14 ev_14 => ?_)
  refine lv_istore_n (lv' := [(2, .int v_14), (3, .int 2), (0, .ref (q 1)), (1, .int 3)]) hx hb dX10_checkOf_24 rfl hl (by decide) rfl (fun ls hl => ?_)
  refine lv_iinc (v := 3) (lv' := [(3, .int 3), (2, .int v_14), (0, .ref (q 1)), (1, .int 3)]) hx hb dX10_checkOf_25 hl (k := 1) rfl (by decide) (by decide) rfl (fun ls hl => ?_)
  refine lv_goto (tgt := 6) hx hb dX10_checkOf_28 (by decide) ?_
  refine lv_iload_n hx hb dX10_checkOf_6 rfl (lv_at hl 0 rfl) ?_
  refine lv_iload_n hx hb dX10_checkOf_7 rfl (lv_at hl 3 rfl) ?_
  refine lv_icmp_ge (tgt := 31) hx hb dX10_checkOf_8 (by decide) (fun c_15 => ?_) (fun c => absurd c (by decide))
  refine lv_iload_n hx hb dX10_checkOf_31 rfl (lv_at hl 1 rfl) ?_
  exact sk_iret hx hb hr rfl hlocks hK hP hD hS rfl (Nat.le_of_ble_eq_true rfl) (Nat.le_of_ble_eq_true rfl) dX10_checkOf_32
theorem dX11_image_0 : decode cX11_image 0 = .ok (.aload_n 0, 1) := by decide +kernel
theorem dX11_image_1 : decode cX11_image 1 = .ok (.getfield 18, 3) := by decide +kernel
theorem dX11_image_4 : decode cX11_image 4 = .ok (.iconst 0, 1) := by decide +kernel
theorem dX11_image_5 : decode cX11_image 5 = .ok (.putfield 110, 3) := by decide +kernel
theorem dX11_image_8 : decode cX11_image 8 = .ok (.aload_n 0, 1) := by decide +kernel
theorem dX11_image_9 : decode cX11_image 9 = .ok (.getfield 18, 3) := by decide +kernel
theorem dX11_image_12 : decode cX11_image 12 = .ok (.aload_n 0, 1) := by decide +kernel
theorem dX11_image_13 : decode cX11_image 13 = .ok (.getfield 59, 3) := by decide +kernel
theorem dX11_image_16 : decode cX11_image 16 = .ok (.getfield 147, 3) := by decide +kernel
theorem dX11_image_19 : decode cX11_image 19 = .ok (.bipush 8, 2) := by decide +kernel
theorem dX11_image_21 : decode cX11_image 21 = .ok (.ishr, 1) := by decide +kernel
theorem dX11_image_22 : decode cX11_image 22 = .ok (.invokevirtual 310, 3) := by decide +kernel
theorem dX11_image_25 : decode cX11_image 25 = .ok (.aload_n 0, 1) := by decide +kernel
theorem dX11_image_26 : decode cX11_image 26 = .ok (.getfield 18, 3) := by decide +kernel
theorem dX11_image_29 : decode cX11_image 29 = .ok (.aload_n 0, 1) := by decide +kernel
theorem dX11_image_30 : decode cX11_image 30 = .ok (.getfield 59, 3) := by decide +kernel
theorem dX11_image_33 : decode cX11_image 33 = .ok (.getfield 147, 3) := by decide +kernel
theorem dX11_image_36 : decode cX11_image 36 = .ok (.sipush 255, 3) := by decide +kernel
theorem dX11_image_39 : decode cX11_image 39 = .ok (.iand, 1) := by decide +kernel
theorem dX11_image_40 : decode cX11_image 40 = .ok (.invokevirtual 310, 3) := by decide +kernel
theorem dX11_image_43 : decode cX11_image 43 = .ok (.aload_n 0, 1) := by decide +kernel
theorem dX11_image_44 : decode cX11_image 44 = .ok (.getfield 18, 3) := by decide +kernel
theorem dX11_image_47 : decode cX11_image 47 = .ok (.aload_n 0, 1) := by decide +kernel
theorem dX11_image_48 : decode cX11_image 48 = .ok (.getfield 59, 3) := by decide +kernel
theorem dX11_image_51 : decode cX11_image 51 = .ok (.getfield 150, 3) := by decide +kernel
theorem dX11_image_54 : decode cX11_image 54 = .ok (.invokevirtual 310, 3) := by decide +kernel
theorem dX11_image_57 : decode cX11_image 57 = .ok (.iconst 0, 1) := by decide +kernel
theorem dX11_image_58 : decode cX11_image 58 = .ok (.istore_n 1, 1) := by decide +kernel
theorem dX11_image_59 : decode cX11_image 59 = .ok (.iload_n 1, 1) := by decide +kernel
theorem dX11_image_60 : decode cX11_image 60 = .ok (.aload_n 0, 1) := by decide +kernel
theorem dX11_image_61 : decode cX11_image 61 = .ok (.getfield 59, 3) := by decide +kernel
theorem dX11_image_64 : decode cX11_image 64 = .ok (.getfield 144, 3) := by decide +kernel
theorem dX11_image_67 : decode cX11_image 67 = .ok (.if_icmp .ge 64, 3) := by decide +kernel
theorem dX11_image_131 : decode cX11_image 131 = .ok (.aload_n 0, 1) := by decide +kernel
theorem dX11_image_132 : decode cX11_image 132 = .ok (.getfield 18, 3) := by decide +kernel
theorem dX11_image_135 : decode cX11_image 135 = .ok (.aload_n 0, 1) := by decide +kernel
theorem dX11_image_136 : decode cX11_image 136 = .ok (.getfield 18, 3) := by decide +kernel
theorem dX11_image_139 : decode cX11_image 139 = .ok (.aload_n 0, 1) := by decide +kernel
theorem dX11_image_140 : decode cX11_image 140 = .ok (.getfield 18, 3) := by decide +kernel
theorem dX11_image_143 : decode cX11_image 143 = .ok (.getfield 110, 3) := by decide +kernel
theorem dX11_image_146 : decode cX11_image 146 = .ok (.invokevirtual 313, 3) := by decide +kernel
theorem dX11_image_149 : decode cX11_image 149 = .ok (.invokevirtual 310, 3) := by decide +kernel
theorem dX11_image_152 : decode cX11_image 152 = .ok (.aload_n 0, 1) := by decide +kernel
theorem dX11_image_153 : decode cX11_image 153 = .ok (.getfield 18, 3) := by decide +kernel
theorem dX11_image_156 : decode cX11_image 156 = .ok (.getfield 110, 3) := by decide +kernel
theorem dX11_image_159 : decode cX11_image 159 = .ok (.ireturn, 1) := by decide +kernel
theorem w_5_127 : (Cond.methodLink RX11 310 yX10_add) ∈ wsL_law := sk_mem (ck_5 _ (List.mem_of_getElem? (i := 127) rfl)) rfl
theorem w_5_128 : (Cond.methodLink RX11 313 yX10_checkOf) ∈ wsL_law := sk_mem (ck_5 _ (List.mem_of_getElem? (i := 128) rfl)) rfl
theorem w_5_129 : (Cond.instanceMethod yX10_checkOf) ∈ wsL_law := sk_mem (ck_5 _ (List.mem_of_getElem? (i := 129) rfl)) rfl
theorem w_5_130 : (Cond.selects RX10 yX10_checkOf yX10_checkOf) ∈ wsL_law := sk_mem (ck_5 _ (List.mem_of_getElem? (i := 130) rfl)) rfl
theorem w_5_126 : (Cond.code yX11_image cX11_image 2 (some .int)) ∈ wsL_law := sk_mem (ck_5 _ (List.mem_of_getElem? (i := 126) rfl)) rfl
set_option maxHeartbeats 4000000 in
set_option maxRecDepth 100000 in
theorem c_x_image (l : Launch) (D : va_G) (cI cJ cC cZ cS : ClassId) (x0 : Nat) (q : Nat → Nat)  : skM l yX11_image cX11_image 2 (some .int) 2 44 0 0 D (skT cI cJ cC cZ cS) [.ref x0] [(x0, .inr (11, [.ref (q 0), .ref (q 1), .ref (q 2), .ref (q 3), .ref (q 4), .ref (q 5), .ref (q 6), .ref (q 7), .ref (q 8), .ref (q 9), .ref (q 10), .ref (q 11), .ref (q 12), .ref (q 13), .ref (q 14), .int 0, .ref (q 16), .long 1])), (q 1, .inr (10, [.ref (q 21), .int 0])), (q 21, .inl (cI, 31, .inl (fun _ => 0))), (q 7, .inr (7, [.ref (q 33), .ref (q 34), .int 0, .int 0, .int 0, .int 0, .int 0]))] (skI D (skT cI cJ cC cZ cS) (fun (r : Int32) (u : va_W) => r = 4 ∧ u = [])) := by
  refine skM_of (by decide) (Nat.le_of_ble_eq_true rfl) ?_
  intro p e s m below meth c A ls E hP hD hl
  obtain ⟨hx, hb, hr, hml, hlocks, hin, hown, hts, hK, hA⟩ := E
  have hown : s.vm.findClass RX11 = some m.cls := hown
  have hS : va_S A s.heap s.heap [] := va_S.rf
  have hl : lv_has ls 2 [(0, .ref x0)] := hl
  refine lv_aload_n hx hb dX11_image_0 rfl (lv_at hl 0 rfl) ?_
  refine sk_get (v := .ref (q 1)) (C := RX11) (T := TX11) (N := 18) hx hb hts inlX11 hown hK hP 0 rfl rfl 1 (by decide) w_2_124 rfl dX11_image_1 ?_
  refine lv_iconst (v := 0) hx hb dX11_image_4 (by decide) ?_
  refine sk_put (ws' := [(x0, .inr (11, [.ref (q 0), .ref (q 1), .ref (q 2), .ref (q 3), .ref (q 4), .ref (q 5), .ref (q 6), .ref (q 7), .ref (q 8), .ref (q 9), .ref (q 10), .ref (q 11), .ref (q 12), .ref (q 13), .ref (q 14), .int 0, .ref (q 16), .long 1])), (q 1, .inr (10, [.ref (q 21), .int 0])), (q 21, .inl (cI, 31, .inl (fun _ => 0))), (q 7, .inr (7, [.ref (q 33), .ref (q 34), .int 0, .int 0, .int 0, .int 0, .int 0]))]) (C := RX10) (T := TX10) (N := 2) (v := .int 0) hx hb hts inlX10 tyX10 tyX10_ok nmX10 hown hK hP hD hS 1 rfl rfl 1 (by decide) w_1_42 rfl rfl rfl (Nat.le_of_ble_eq_true rfl) rfl dX11_image_5 (fun H locs hP hD hS => ?_)
  refine lv_aload_n hx hb dX11_image_8 rfl (lv_at hl 0 rfl) ?_
  refine sk_get (v := .ref (q 1)) (C := RX11) (T := TX11) (N := 18) hx hb hts inlX11 hown hK hP 0 rfl rfl 1 (by decide) w_2_124 rfl dX11_image_9 ?_
  refine lv_aload_n hx hb dX11_image_12 rfl (lv_at hl 0 rfl) ?_
  refine sk_get (v := .ref (q 7)) (C := RX11) (T := TX11) (N := 18) hx hb hts inlX11 hown hK hP 0 rfl rfl 7 (by decide) w_2_130 rfl dX11_image_13 ?_
  refine sk_get (v := .int 0) (C := RX7) (T := TX7) (N := 7) hx hb hts inlX7 hown hK hP 3 rfl rfl 3 (by decide) w_2_6 rfl dX11_image_16 ?_
  refine lv_bipush (v := 8) hx hb dX11_image_19 (by decide) ?_
  refine lv_ishr hx hb dX11_image_21 ?_
  refine sk_top 0 (by decide) ?_
  refine sk_Vv (q0 := 0) (n := 1) (rest := []) (wr := [(x0, .inr (11, [.ref (q 0), .ref (q 1), .ref (q 2), .ref (q 3), .ref (q 4), .ref (q 5), .ref (q 6), .ref (q 7), .ref (q 8), .ref (q 9), .ref (q 10), .ref (q 11), .ref (q 12), .ref (q 13), .ref (q 14), .int 0, .ref (q 16), .long 1])), (q 7, .inr (7, [.ref (q 33), .ref (q 34), .int 0, .int 0, .int 0, .int 0, .int 0]))]) ⟨hx, hb, hml, hown, hts⟩ hl.1 (c_Tape_add_31 l D cI cJ cC cZ cS (q 1) (q 21) 0 0 (fun _ => 0) (by decide) (by unfold vp_in; decide)) w_5_127 w_2_191 w_2_192 w_1_2 w_2_193 (by decide +kernel) ⟨⟨(Nat.le_of_ble_eq_true rfl), (Nat.le_of_ble_eq_true rfl)⟩, (Nat.le_of_ble_eq_true rfl), (Nat.le_of_ble_eq_true rfl)⟩ hK hP hD hS hA [1, 2] [0, 3] rfl rfl (by decide) (by decide) (by decide) rfl rfl rfl rfl (Nat.le_of_ble_eq_true rfl) dX11_image_22 (fun u H locs hw hP hD hS => ?_)
  obtain ⟨f2_1, rfl⟩ := hw
  have hP : va_P D vwCl [(x0, .inr (11, [.ref (q 0), .ref (q 1), .ref (q 2), .ref (q 3), .ref (q 4), .ref (q 5), .ref (q 6), .ref (q 7), .ref (q 8), .ref (q 9), .ref (q 10), .ref (q 11), .ref (q 12), .ref (q 13), .ref (q 14), .int 0, .ref (q 16), .long 1])), (q 7, .inr (7, [.ref (q 33), .ref (q 34), .int 0, .int 0, .int 0, .int 0, .int 0])), (q 1, .inr (10, [.ref (q 21), .int 1])), (q 21, .inl (cI, 31, .inl f2_1))] H := hP
  have hD : va_D A [(x0, .inr (11, [.ref (q 0), .ref (q 1), .ref (q 2), .ref (q 3), .ref (q 4), .ref (q 5), .ref (q 6), .ref (q 7), .ref (q 8), .ref (q 9), .ref (q 10), .ref (q 11), .ref (q 12), .ref (q 13), .ref (q 14), .int 0, .ref (q 16), .long 1])), (q 7, .inr (7, [.ref (q 33), .ref (q 34), .int 0, .int 0, .int 0, .int 0, .int 0])), (q 1, .inr (10, [.ref (q 21), .int 1])), (q 21, .inl (cI, 31, .inl f2_1))] := hD
  refine W.widen (k := 0) (n := 0) (Nat.le_of_ble_eq_true rfl) (Nat.le_of_ble_eq_true rfl) ?_
  refine lv_aload_n hx hb dX11_image_25 rfl (lv_at hl 0 rfl) ?_
  refine sk_get (v := .ref (q 1)) (C := RX11) (T := TX11) (N := 18) hx hb hts inlX11 hown hK hP 0 rfl rfl 1 (by decide) w_2_124 rfl dX11_image_26 ?_
  refine lv_aload_n hx hb dX11_image_29 rfl (lv_at hl 0 rfl) ?_
  refine sk_get (v := .ref (q 7)) (C := RX11) (T := TX11) (N := 18) hx hb hts inlX11 hown hK hP 0 rfl rfl 7 (by decide) w_2_130 rfl dX11_image_30 ?_
  refine sk_get (v := .int 0) (C := RX7) (T := TX7) (N := 7) hx hb hts inlX7 hown hK hP 1 rfl rfl 3 (by decide) w_2_6 rfl dX11_image_33 ?_
  refine lv_sipush (v := 255) hx hb dX11_image_36 (by decide) ?_
  refine lv_iand hx hb dX11_image_39 ?_
  refine sk_top 0 (by decide) ?_
  refine sk_Vv (q0 := 0) (n := 1) (rest := []) (wr := [(x0, .inr (11, [.ref (q 0), .ref (q 1), .ref (q 2), .ref (q 3), .ref (q 4), .ref (q 5), .ref (q 6), .ref (q 7), .ref (q 8), .ref (q 9), .ref (q 10), .ref (q 11), .ref (q 12), .ref (q 13), .ref (q 14), .int 0, .ref (q 16), .long 1])), (q 7, .inr (7, [.ref (q 33), .ref (q 34), .int 0, .int 0, .int 0, .int 0, .int 0]))]) ⟨hx, hb, hml, hown, hts⟩ hl.1 (c_Tape_add_31 l D cI cJ cC cZ cS (q 1) (q 21) 1 0 f2_1 (by decide) (by unfold vp_in; decide)) w_5_127 w_2_191 w_2_192 w_1_2 w_2_193 (by decide +kernel) ⟨⟨(Nat.le_of_ble_eq_true rfl), (Nat.le_of_ble_eq_true rfl)⟩, (Nat.le_of_ble_eq_true rfl), (Nat.le_of_ble_eq_true rfl)⟩ hK hP hD hS hA [2, 3] [0, 1] rfl rfl (by decide) (by decide) (by decide) rfl rfl rfl rfl (Nat.le_of_ble_eq_true rfl) dX11_image_40 (fun u H locs hw hP hD hS => ?_)
  obtain ⟨f2_2, rfl⟩ := hw
  have hP : va_P D vwCl [(x0, .inr (11, [.ref (q 0), .ref (q 1), .ref (q 2), .ref (q 3), .ref (q 4), .ref (q 5), .ref (q 6), .ref (q 7), .ref (q 8), .ref (q 9), .ref (q 10), .ref (q 11), .ref (q 12), .ref (q 13), .ref (q 14), .int 0, .ref (q 16), .long 1])), (q 7, .inr (7, [.ref (q 33), .ref (q 34), .int 0, .int 0, .int 0, .int 0, .int 0])), (q 1, .inr (10, [.ref (q 21), .int 2])), (q 21, .inl (cI, 31, .inl f2_2))] H := hP
  have hD : va_D A [(x0, .inr (11, [.ref (q 0), .ref (q 1), .ref (q 2), .ref (q 3), .ref (q 4), .ref (q 5), .ref (q 6), .ref (q 7), .ref (q 8), .ref (q 9), .ref (q 10), .ref (q 11), .ref (q 12), .ref (q 13), .ref (q 14), .int 0, .ref (q 16), .long 1])), (q 7, .inr (7, [.ref (q 33), .ref (q 34), .int 0, .int 0, .int 0, .int 0, .int 0])), (q 1, .inr (10, [.ref (q 21), .int 2])), (q 21, .inl (cI, 31, .inl f2_2))] := hD
  refine W.widen (k := 0) (n := 0) (Nat.le_of_ble_eq_true rfl) (Nat.le_of_ble_eq_true rfl) ?_
  refine lv_aload_n hx hb dX11_image_43 rfl (lv_at hl 0 rfl) ?_
  refine sk_get (v := .ref (q 1)) (C := RX11) (T := TX11) (N := 18) hx hb hts inlX11 hown hK hP 0 rfl rfl 1 (by decide) w_2_124 rfl dX11_image_44 ?_
  refine lv_aload_n hx hb dX11_image_47 rfl (lv_at hl 0 rfl) ?_
  refine sk_get (v := .ref (q 7)) (C := RX11) (T := TX11) (N := 18) hx hb hts inlX11 hown hK hP 0 rfl rfl 7 (by decide) w_2_130 rfl dX11_image_48 ?_
  refine sk_get (v := .int 0) (C := RX7) (T := TX7) (N := 7) hx hb hts inlX7 hown hK hP 1 rfl rfl 4 (by decide) w_2_10 rfl dX11_image_51 ?_
  refine sk_Vv (q0 := 0) (n := 1) (rest := []) (wr := [(x0, .inr (11, [.ref (q 0), .ref (q 1), .ref (q 2), .ref (q 3), .ref (q 4), .ref (q 5), .ref (q 6), .ref (q 7), .ref (q 8), .ref (q 9), .ref (q 10), .ref (q 11), .ref (q 12), .ref (q 13), .ref (q 14), .int 0, .ref (q 16), .long 1])), (q 7, .inr (7, [.ref (q 33), .ref (q 34), .int 0, .int 0, .int 0, .int 0, .int 0]))]) ⟨hx, hb, hml, hown, hts⟩ hl.1 (c_Tape_add_31 l D cI cJ cC cZ cS (q 1) (q 21) 2 0 f2_2 (by decide) (by unfold vp_in; decide)) w_5_127 w_2_191 w_2_192 w_1_2 w_2_193 (by decide +kernel) ⟨⟨(Nat.le_of_ble_eq_true rfl), (Nat.le_of_ble_eq_true rfl)⟩, (Nat.le_of_ble_eq_true rfl), (Nat.le_of_ble_eq_true rfl)⟩ hK hP hD hS hA [2, 3] [0, 1] rfl rfl (by decide) (by decide) (by decide) rfl rfl rfl rfl (Nat.le_of_ble_eq_true rfl) dX11_image_54 (fun u H locs hw hP hD hS => ?_)
  obtain ⟨f2_3, rfl⟩ := hw
  have hP : va_P D vwCl [(x0, .inr (11, [.ref (q 0), .ref (q 1), .ref (q 2), .ref (q 3), .ref (q 4), .ref (q 5), .ref (q 6), .ref (q 7), .ref (q 8), .ref (q 9), .ref (q 10), .ref (q 11), .ref (q 12), .ref (q 13), .ref (q 14), .int 0, .ref (q 16), .long 1])), (q 7, .inr (7, [.ref (q 33), .ref (q 34), .int 0, .int 0, .int 0, .int 0, .int 0])), (q 1, .inr (10, [.ref (q 21), .int 3])), (q 21, .inl (cI, 31, .inl f2_3))] H := hP
  have hD : va_D A [(x0, .inr (11, [.ref (q 0), .ref (q 1), .ref (q 2), .ref (q 3), .ref (q 4), .ref (q 5), .ref (q 6), .ref (q 7), .ref (q 8), .ref (q 9), .ref (q 10), .ref (q 11), .ref (q 12), .ref (q 13), .ref (q 14), .int 0, .ref (q 16), .long 1])), (q 7, .inr (7, [.ref (q 33), .ref (q 34), .int 0, .int 0, .int 0, .int 0, .int 0])), (q 1, .inr (10, [.ref (q 21), .int 3])), (q 21, .inl (cI, 31, .inl f2_3))] := hD
  refine W.widen (k := 0) (n := 0) (Nat.le_of_ble_eq_true rfl) (Nat.le_of_ble_eq_true rfl) ?_
  refine lv_iconst (v := 0) hx hb dX11_image_57 (by decide) ?_
  refine lv_istore_n (lv' := [(1, .int 0), (0, .ref x0)]) hx hb dX11_image_58 rfl hl (by decide) rfl (fun ls hl => ?_)
  refine lv_iload_n hx hb dX11_image_59 rfl (lv_at hl 0 rfl) ?_
  refine lv_aload_n hx hb dX11_image_60 rfl (lv_at hl 1 rfl) ?_
  refine sk_get (v := .ref (q 7)) (C := RX11) (T := TX11) (N := 18) hx hb hts inlX11 hown hK hP 0 rfl rfl 7 (by decide) w_2_130 rfl dX11_image_61 ?_
  refine sk_get (v := .int 0) (C := RX7) (T := TX7) (N := 7) hx hb hts inlX7 hown hK hP 1 rfl rfl 2 (by decide) w_2_1 rfl dX11_image_64 ?_
  refine lv_icmp_ge (tgt := 131) hx hb dX11_image_67 (by decide) (fun c_4 => ?_) (fun c => absurd c (by decide))
  refine lv_aload_n hx hb dX11_image_131 rfl (lv_at hl 1 rfl) ?_
  refine sk_get (v := .ref (q 1)) (C := RX11) (T := TX11) (N := 18) hx hb hts inlX11 hown hK hP 0 rfl rfl 1 (by decide) w_2_124 rfl dX11_image_132 ?_
  refine lv_aload_n hx hb dX11_image_135 rfl (lv_at hl 1 rfl) ?_
  refine sk_get (v := .ref (q 1)) (C := RX11) (T := TX11) (N := 18) hx hb hts inlX11 hown hK hP 0 rfl rfl 1 (by decide) w_2_124 rfl dX11_image_136 ?_
  refine lv_aload_n hx hb dX11_image_139 rfl (lv_at hl 1 rfl) ?_
  refine sk_get (v := .ref (q 1)) (C := RX11) (T := TX11) (N := 18) hx hb hts inlX11 hown hK hP 0 rfl rfl 1 (by decide) w_2_124 rfl dX11_image_140 ?_
  refine sk_get (v := .int 3) (C := RX10) (T := TX10) (N := 2) hx hb hts inlX10 hown hK hP 2 rfl rfl 1 (by decide) w_1_42 rfl dX11_image_143 ?_
  refine sk_Vi (q0 := 0) (n := 1) (rest := [.ref (q 1)]) (wr := [(x0, .inr (11, [.ref (q 0), .ref (q 1), .ref (q 2), .ref (q 3), .ref (q 4), .ref (q 5), .ref (q 6), .ref (q 7), .ref (q 8), .ref (q 9), .ref (q 10), .ref (q 11), .ref (q 12), .ref (q 13), .ref (q 14), .int 0, .ref (q 16), .long 1])), (q 7, .inr (7, [.ref (q 33), .ref (q 34), .int 0, .int 0, .int 0, .int 0, .int 0]))]) ⟨hx, hb, hml, hown, hts⟩ hl.1 (c_tp_checkOf l D cI cJ cC cZ cS q 3 f2_3) w_5_128 w_5_129 w_5_130 w_1_2 w_5_131 (by decide +kernel) ⟨⟨(Nat.le_of_ble_eq_true rfl), (Nat.le_of_ble_eq_true rfl)⟩, (Nat.le_of_ble_eq_true rfl), (Nat.le_of_ble_eq_true rfl)⟩ hK hP hD hS hA [2, 3] [0, 1] rfl rfl (by decide) (by decide) (by decide) rfl rfl rfl rfl (Nat.le_of_ble_eq_true rfl) dX11_image_146 (fun r_5 u H locs hw hP hD hS => ?_)
  obtain rfl := hw
  have hP : va_P D vwCl [(x0, .inr (11, [.ref (q 0), .ref (q 1), .ref (q 2), .ref (q 3), .ref (q 4), .ref (q 5), .ref (q 6), .ref (q 7), .ref (q 8), .ref (q 9), .ref (q 10), .ref (q 11), .ref (q 12), .ref (q 13), .ref (q 14), .int 0, .ref (q 16), .long 1])), (q 7, .inr (7, [.ref (q 33), .ref (q 34), .int 0, .int 0, .int 0, .int 0, .int 0])), (q 1, .inr (10, [.ref (q 21), .int 3])), (q 21, .inl (cI, 31, .inl f2_3))] H := hP
  have hD : va_D A [(x0, .inr (11, [.ref (q 0), .ref (q 1), .ref (q 2), .ref (q 3), .ref (q 4), .ref (q 5), .ref (q 6), .ref (q 7), .ref (q 8), .ref (q 9), .ref (q 10), .ref (q 11), .ref (q 12), .ref (q 13), .ref (q 14), .int 0, .ref (q 16), .long 1])), (q 7, .inr (7, [.ref (q 33), .ref (q 34), .int 0, .int 0, .int 0, .int 0, .int 0])), (q 1, .inr (10, [.ref (q 21), .int 3])), (q 21, .inl (cI, 31, .inl f2_3))] := hD
  refine W.widen (k := 0) (n := 0) (Nat.le_of_ble_eq_true rfl) (Nat.le_of_ble_eq_true rfl) ?_
  refine sk_Vv (q0 := 0) (n := 1) (rest := []) (wr := [(x0, .inr (11, [.ref (q 0), .ref (q 1), .ref (q 2), .ref (q 3), .ref (q 4), .ref (q 5), .ref (q 6), .ref (q 7), .ref (q 8), .ref (q 9), .ref (q 10), .ref (q 11), .ref (q 12), .ref (q 13), .ref (q 14), .int 0, .ref (q 16), .long 1])), (q 7, .inr (7, [.ref (q 33), .ref (q 34), .int 0, .int 0, .int 0, .int 0, .int 0]))]) ⟨hx, hb, hml, hown, hts⟩ hl.1 (c_Tape_add_31 l D cI cJ cC cZ cS (q 1) (q 21) 3 r_5 f2_3 (by decide) (by unfold vp_in; decide)) w_5_127 w_2_191 w_2_192 w_1_2 w_2_193 (by decide +kernel) ⟨⟨(Nat.le_of_ble_eq_true rfl), (Nat.le_of_ble_eq_true rfl)⟩, (Nat.le_of_ble_eq_true rfl), (Nat.le_of_ble_eq_true rfl)⟩ hK hP hD hS hA [2, 3] [0, 1] rfl rfl (by decide) (by decide) (by decide) rfl rfl rfl rfl (Nat.le_of_ble_eq_true rfl) dX11_image_149 (fun u H locs hw hP hD hS => ?_)
  obtain ⟨f2_6, rfl⟩ := hw
  have hP : va_P D vwCl [(x0, .inr (11, [.ref (q 0), .ref (q 1), .ref (q 2), .ref (q 3), .ref (q 4), .ref (q 5), .ref (q 6), .ref (q 7), .ref (q 8), .ref (q 9), .ref (q 10), .ref (q 11), .ref (q 12), .ref (q 13), .ref (q 14), .int 0, .ref (q 16), .long 1])), (q 7, .inr (7, [.ref (q 33), .ref (q 34), .int 0, .int 0, .int 0, .int 0, .int 0])), (q 1, .inr (10, [.ref (q 21), .int 4])), (q 21, .inl (cI, 31, .inl f2_6))] H := hP
  have hD : va_D A [(x0, .inr (11, [.ref (q 0), .ref (q 1), .ref (q 2), .ref (q 3), .ref (q 4), .ref (q 5), .ref (q 6), .ref (q 7), .ref (q 8), .ref (q 9), .ref (q 10), .ref (q 11), .ref (q 12), .ref (q 13), .ref (q 14), .int 0, .ref (q 16), .long 1])), (q 7, .inr (7, [.ref (q 33), .ref (q 34), .int 0, .int 0, .int 0, .int 0, .int 0])), (q 1, .inr (10, [.ref (q 21), .int 4])), (q 21, .inl (cI, 31, .inl f2_6))] := hD
  refine W.widen (k := 0) (n := 0) (Nat.le_of_ble_eq_true rfl) (Nat.le_of_ble_eq_true rfl) ?_
  refine lv_aload_n hx hb dX11_image_152 rfl (lv_at hl 1 rfl) ?_
  refine sk_get (v := .ref (q 1)) (C := RX11) (T := TX11) (N := 18) hx hb hts inlX11 hown hK hP 0 rfl rfl 1 (by decide) w_2_124 rfl dX11_image_153 ?_
  refine sk_get (v := .int 4) (C := RX10) (T := TX10) (N := 2) hx hb hts inlX10 hown hK hP 2 rfl rfl 1 (by decide) w_1_42 rfl dX11_image_156 ?_
  have hP := hP.sub (ws' := []) [] rfl
  have hD := hD.sub (ws' := []) [] (by decide) rfl
  exact sk_iret hx hb hr rfl hlocks hK hP hD hS (⟨rfl, rfl⟩) (Nat.le_of_ble_eq_true rfl) (Nat.le_of_ble_eq_true rfl) dX11_image_159
theorem dX11_octet_0 : decode cX11_octet 0 = .ok (.iload_n 1, 1) := by decide +kernel
theorem dX11_octet_1 : decode cX11_octet 1 = .ok (.ifCond .lt 25, 3) := by decide +kernel
theorem dX11_octet_26 : decode cX11_octet 26 = .ok (.iconst (-1), 1) := by decide +kernel
theorem dX11_octet_27 : decode cX11_octet 27 = .ok (.ireturn, 1) := by decide +kernel
theorem dX11_octet_4 : decode cX11_octet 4 = .ok (.iload_n 1, 1) := by decide +kernel
theorem dX11_octet_5 : decode cX11_octet 5 = .ok (.aload_n 0, 1) := by decide +kernel
theorem dX11_octet_6 : decode cX11_octet 6 = .ok (.getfield 18, 3) := by decide +kernel
theorem dX11_octet_9 : decode cX11_octet 9 = .ok (.getfield 110, 3) := by decide +kernel
theorem dX11_octet_12 : decode cX11_octet 12 = .ok (.if_icmp .ge 14, 3) := by decide +kernel
theorem w_5_136 : (Cond.code yX11_octet cX11_octet 2 (some .int)) ∈ wsL_law := sk_mem (ck_5 _ (List.mem_of_getElem? (i := 136) rfl)) rfl
set_option maxHeartbeats 4000000 in
set_option maxRecDepth 100000 in
theorem c_x_octet (l : Launch) (D : va_G) (cI cJ cC cZ cS : ClassId) (x0 : Nat) (q : Nat → Nat) (k : Int32)  : skM l yX11_octet cX11_octet 2 (some .int) 0 0 0 0 D (skT cI cJ cC cZ cS) [.ref x0, .int k] [(x0, .inr (11, [.ref (q 0), .ref (q 1), .ref (q 2), .ref (q 3), .ref (q 4), .ref (q 5), .ref (q 6), .ref (q 7), .ref (q 8), .ref (q 9), .ref (q 10), .ref (q 11), .ref (q 12), .ref (q 13), .ref (q 14), .int 0, .ref (q 16), .long 1])), (q 1, .inr (10, [.ref (q 21), .int 0]))] (skI D (skT cI cJ cC cZ cS) (fun (r : Int32) (u : va_W) => r = -1 ∧ u = [])) := by
  refine skM_of (by decide) (Nat.le_of_ble_eq_true rfl) ?_
  intro p e s m below meth c A ls E hP hD hl
  obtain ⟨hx, hb, hr, hml, hlocks, hin, hown, hts, hK, hA⟩ := E
  have hown : s.vm.findClass RX11 = some m.cls := hown
  have hS : va_S A s.heap s.heap [] := va_S.rf
  have hl : lv_has ls 2 [(0, .ref x0), (1, .int k)] := hl
  refine lv_iload_n hx hb dX11_octet_0 rfl (lv_at hl 1 rfl) ?_
  refine lv_if_lt (tgt := 26) hx hb dX11_octet_1 (by decide) (fun c_1 => ?_) (fun c_1 => ?_)
  · refine lv_iconst (v := (-1)) hx hb dX11_octet_26 (by decide) ?_
    have hP := hP.sub (ws' := []) [] rfl
    have hD := hD.sub (ws' := []) [] (by decide) rfl
    exact sk_iret hx hb hr rfl hlocks hK hP hD hS (⟨rfl, rfl⟩) (Nat.le_of_ble_eq_true rfl) (Nat.le_of_ble_eq_true rfl) dX11_octet_27
  · refine lv_iload_n hx hb dX11_octet_4 rfl (lv_at hl 1 rfl) ?_
    refine lv_aload_n hx hb dX11_octet_5 rfl (lv_at hl 0 rfl) ?_
    refine sk_get (v := .ref (q 1)) (C := RX11) (T := TX11) (N := 18) hx hb hts inlX11 hown hK hP 0 rfl rfl 1 (by decide) w_2_124 rfl dX11_octet_6 ?_
    refine sk_get (v := .int 0) (C := RX10) (T := TX10) (N := 2) hx hb hts inlX10 hown hK hP 1 rfl rfl 1 (by decide) w_1_42 rfl dX11_octet_9 ?_
    refine lv_icmp_ge (tgt := 26) hx hb dX11_octet_12 (by decide) (fun c_2 => ?_) (fun c => absurd (Int32.not_lt.mp c_1) c)
    refine lv_iconst (v := (-1)) hx hb dX11_octet_26 (by decide) ?_
    have hP := hP.sub (ws' := []) [] rfl
    have hD := hD.sub (ws' := []) [] (by decide) rfl
    exact sk_iret hx hb hr rfl hlocks hK hP hD hS (⟨rfl, rfl⟩) (Nat.le_of_ble_eq_true rfl) (Nat.le_of_ble_eq_true rfl) dX11_octet_27
theorem dX11_on_0 : decode cX11_on 0 = .ok (.aload_n 0, 1) := by decide +kernel
theorem dX11_on_1 : decode cX11_on 1 = .ok (.invokevirtual 204, 3) := by decide +kernel
theorem dX11_on_4 : decode cX11_on 4 = .ok (.ifCond .eq 14, 3) := by decide +kernel
theorem dX11_on_18 : decode cX11_on 18 = .ok (.iconst 0, 1) := by decide +kernel
theorem dX11_on_19 : decode cX11_on 19 = .ok (.istore_n 1, 1) := by decide +kernel
theorem dX11_on_20 : decode cX11_on 20 = .ok (.aload_n 0, 1) := by decide +kernel
theorem dX11_on_21 : decode cX11_on 21 = .ok (.getfield 12, 3) := by decide +kernel
theorem dX11_on_24 : decode cX11_on 24 = .ok (.iconst 0, 1) := by decide +kernel
theorem dX11_on_25 : decode cX11_on 25 = .ok (.putfield 110, 3) := by decide +kernel
theorem dX11_on_28 : decode cX11_on 28 = .ok (.iload_n 1, 1) := by decide +kernel
theorem dX11_on_29 : decode cX11_on 29 = .ok (.ifCond .ne 9, 3) := by decide +kernel
theorem dX11_on_32 : decode cX11_on 32 = .ok (.aload_n 0, 1) := by decide +kernel
theorem dX11_on_33 : decode cX11_on 33 = .ok (.iconst 5, 1) := by decide +kernel
theorem dX11_on_34 : decode cX11_on 34 = .ok (.invokevirtual 120, 3) := by decide +kernel
theorem dX11_on_37 : decode cX11_on 37 = .ok (.ireturn, 1) := by decide +kernel
theorem w_5_140 : (Cond.code yX11_on cX11_on 3 (some .boolean)) ∈ wsL_law := sk_mem (ck_5 _ (List.mem_of_getElem? (i := 140) rfl)) rfl
set_option maxHeartbeats 4000000 in
set_option maxRecDepth 100000 in
theorem c_x_on (l : Launch) (D : va_G) (cI cJ cC cZ cS : ClassId) (x0 : Nat) (q : Nat → Nat)  : skM l yX11_on cX11_on 3 (some .boolean) 1 21 0 0 D (skT cI cJ cC cZ cS) [.ref x0] [(x0, .inr (11, [.ref (q 0), .ref (q 1), .ref (q 2), .ref (q 3), .ref (q 4), .ref (q 5), .ref (q 6), .ref (q 7), .ref (q 8), .ref (q 9), .ref (q 10), .ref (q 11), .ref (q 12), .ref (q 13), .ref (q 14), .int 0, .ref (q 16), .long 1])), (q 7, .inr (7, [.ref (q 33), .ref (q 34), .int 0, .int 0, .int 0, .int 0, .int 0])), (q 0, .inr (10, [.ref (q 20), .int 0])), (q 16, .inl (cI, 6, .inl (fun _ => 0)))] (skI D (skT cI cJ cC cZ cS) (fun (r : Int32) (u : va_W) => r = 0 ∧ u = [])) := by
  refine skM_of (by decide) (Nat.le_of_ble_eq_true rfl) ?_
  intro p e s m below meth c A ls E hP hD hl
  obtain ⟨hx, hb, hr, hml, hlocks, hin, hown, hts, hK, hA⟩ := E
  have hown : s.vm.findClass RX11 = some m.cls := hown
  have hS : va_S A s.heap s.heap [] := va_S.rf
  have hl : lv_has ls 3 [(0, .ref x0)] := hl
  refine lv_aload_n hx hb dX11_on_0 rfl (lv_at hl 0 rfl) ?_
  refine sk_Vi (q0 := 0) (n := 0) (rest := []) (wr := [(q 0, .inr (10, [.ref (q 20), .int 0])), (q 16, .inl (cI, 6, .inl (fun _ => 0)))]) ⟨hx, hb, hml, hown, hts⟩ hl.1 (c_x_isLocked l D cI cJ cC cZ cS x0 q) w_4_39 w_4_41 w_0_18 w_1_1 w_4_42 (by decide +kernel) ⟨⟨(Nat.le_of_ble_eq_true rfl), (Nat.le_of_ble_eq_true rfl)⟩, (Nat.le_of_ble_eq_true rfl), (Nat.le_of_ble_eq_true rfl)⟩ hK hP hD hS hA [0, 1] [2, 3] rfl rfl (by decide) (by decide) (by decide) rfl rfl rfl rfl (Nat.le_of_ble_eq_true rfl) dX11_on_1 (fun r_1 u H locs hw hP hD hS => ?_)
  obtain ⟨rfl, rfl⟩ := hw
  have hP : va_P D vwCl [(q 0, .inr (10, [.ref (q 20), .int 0])), (q 16, .inl (cI, 6, .inl (fun _ => 0))), (x0, .inr (11, [.ref (q 0), .ref (q 1), .ref (q 2), .ref (q 3), .ref (q 4), .ref (q 5), .ref (q 6), .ref (q 7), .ref (q 8), .ref (q 9), .ref (q 10), .ref (q 11), .ref (q 12), .ref (q 13), .ref (q 14), .int 0, .ref (q 16), .long 1])), (q 7, .inr (7, [.ref (q 33), .ref (q 34), .int 0, .int 0, .int 0, .int 0, .int 0]))] H := hP
  have hD : va_D A [(q 0, .inr (10, [.ref (q 20), .int 0])), (q 16, .inl (cI, 6, .inl (fun _ => 0))), (x0, .inr (11, [.ref (q 0), .ref (q 1), .ref (q 2), .ref (q 3), .ref (q 4), .ref (q 5), .ref (q 6), .ref (q 7), .ref (q 8), .ref (q 9), .ref (q 10), .ref (q 11), .ref (q 12), .ref (q 13), .ref (q 14), .int 0, .ref (q 16), .long 1])), (q 7, .inr (7, [.ref (q 33), .ref (q 34), .int 0, .int 0, .int 0, .int 0, .int 0]))] := hD
  refine W.widen (k := 0) (n := 0) (Nat.le_of_ble_eq_true rfl) (Nat.le_of_ble_eq_true rfl) ?_
  refine lv_if_eq (tgt := 18) hx hb dX11_on_4 (by decide) (fun c_2 => ?_) (fun c => absurd c (by decide))
  refine lv_iconst (v := 0) hx hb dX11_on_18 (by decide) ?_
  refine lv_istore_n (lv' := [(1, .int 0), (0, .ref x0)]) hx hb dX11_on_19 rfl hl (by decide) rfl (fun ls hl => ?_)
  refine lv_aload_n hx hb dX11_on_20 rfl (lv_at hl 1 rfl) ?_
  refine sk_get (v := .ref (q 0)) (C := RX11) (T := TX11) (N := 18) hx hb hts inlX11 hown hK hP 2 rfl rfl 0 (by decide) w_2_123 rfl dX11_on_21 ?_
  refine lv_iconst (v := 0) hx hb dX11_on_24 (by decide) ?_
  refine sk_put (ws' := [(q 0, .inr (10, [.ref (q 20), .int 0])), (q 16, .inl (cI, 6, .inl (fun _ => 0))), (x0, .inr (11, [.ref (q 0), .ref (q 1), .ref (q 2), .ref (q 3), .ref (q 4), .ref (q 5), .ref (q 6), .ref (q 7), .ref (q 8), .ref (q 9), .ref (q 10), .ref (q 11), .ref (q 12), .ref (q 13), .ref (q 14), .int 0, .ref (q 16), .long 1])), (q 7, .inr (7, [.ref (q 33), .ref (q 34), .int 0, .int 0, .int 0, .int 0, .int 0]))]) (C := RX10) (T := TX10) (N := 2) (v := .int 0) hx hb hts inlX10 tyX10 tyX10_ok nmX10 hown hK hP hD hS 0 rfl rfl 1 (by decide) w_1_42 rfl rfl rfl (Nat.le_of_ble_eq_true rfl) rfl dX11_on_25 (fun H locs hP hD hS => ?_)
  refine lv_iload_n hx hb dX11_on_28 rfl (lv_at hl 0 rfl) ?_
  refine lv_if_ne (tgt := 38) hx hb dX11_on_29 (by decide) (fun c => absurd c (by decide)) (fun c_3 => ?_)
  refine lv_aload_n hx hb dX11_on_32 rfl (lv_at hl 1 rfl) ?_
  refine lv_iconst (v := 5) hx hb dX11_on_33 (by decide) ?_
  refine sk_Vi (q0 := 0) (n := 1) (rest := []) (wr := [(q 0, .inr (10, [.ref (q 20), .int 0])), (q 7, .inr (7, [.ref (q 33), .ref (q 34), .int 0, .int 0, .int 0, .int 0, .int 0]))]) ⟨hx, hb, hml, hown, hts⟩ hl.1 (c_x_refuseIt l D cI cJ cC cZ cS x0 q 5 (fun _ => 0) (by unfold vp_in; decide)) w_2_198 w_2_200 w_0_1 w_1_1 w_2_201 (by decide +kernel) ⟨⟨(Nat.le_of_ble_eq_true rfl), (Nat.le_of_ble_eq_true rfl)⟩, (Nat.le_of_ble_eq_true rfl), (Nat.le_of_ble_eq_true rfl)⟩ hK hP hD hS hA [2, 1] [0, 3] rfl rfl (by decide) (by decide) (by decide) rfl rfl rfl rfl (Nat.le_of_ble_eq_true rfl) dX11_on_34 (fun r_5 u H locs hw hP hD hS => ?_)
  obtain ⟨f2_4, rfl, rfl⟩ := hw
  have hP : va_P D vwCl [(q 0, .inr (10, [.ref (q 20), .int 0])), (q 7, .inr (7, [.ref (q 33), .ref (q 34), .int 0, .int 0, .int 0, .int 0, .int 0])), (x0, .inr (11, [.ref (q 0), .ref (q 1), .ref (q 2), .ref (q 3), .ref (q 4), .ref (q 5), .ref (q 6), .ref (q 7), .ref (q 8), .ref (q 9), .ref (q 10), .ref (q 11), .ref (q 12), .ref (q 13), .ref (q 14), .int 0, .ref (q 16), .long 1])), (q 16, .inl (cI, 6, .inl f2_4))] H := hP
  have hD : va_D A [(q 0, .inr (10, [.ref (q 20), .int 0])), (q 7, .inr (7, [.ref (q 33), .ref (q 34), .int 0, .int 0, .int 0, .int 0, .int 0])), (x0, .inr (11, [.ref (q 0), .ref (q 1), .ref (q 2), .ref (q 3), .ref (q 4), .ref (q 5), .ref (q 6), .ref (q 7), .ref (q 8), .ref (q 9), .ref (q 10), .ref (q 11), .ref (q 12), .ref (q 13), .ref (q 14), .int 0, .ref (q 16), .long 1])), (q 16, .inl (cI, 6, .inl f2_4))] := hD
  refine W.widen (k := 0) (n := 0) (Nat.le_of_ble_eq_true rfl) (Nat.le_of_ble_eq_true rfl) ?_
  have hP := hP.sub (ws' := []) [] rfl
  have hD := hD.sub (ws' := []) [] (by decide) rfl
  exact sk_iret hx hb hr rfl hlocks hK hP hD hS (⟨rfl, rfl⟩) (Nat.le_of_ble_eq_true rfl) (Nat.le_of_ble_eq_true rfl) dX11_on_37
theorem sk_in6 {w : Int32} (h1 : ¬ w < 0) (h2 : ¬ (6 : Int32) ≤ w) : vp_in w 6 := by
  unfold vp_in
  rintro (h | h)
  · exact h1 h
  · have h3 := Int32.not_le.mp h2
    rw [Int32.lt_iff_toInt_lt] at h1 h3
    have e6 : (6 : Int32).toInt = 6 := rfl
    have e0 : (0 : Int32).toInt = 0 := rfl
    rw [e6] at h3
    have h4 : w.toNatClampNeg = w.toInt.toNat := rfl
    omega
theorem dX11_status_0 : decode cX11_status 0 = .ok (.iload_n 1, 1) := by decide +kernel
theorem dX11_status_1 : decode cX11_status 1 = .ok (.ifCond .lt 18, 3) := by decide +kernel
theorem dX11_status_19 : decode cX11_status 19 = .ok (.iconst (-1), 1) := by decide +kernel
theorem dX11_status_20 : decode cX11_status 20 = .ok (.ireturn, 1) := by decide +kernel
theorem dX11_status_4 : decode cX11_status 4 = .ok (.iload_n 1, 1) := by decide +kernel
theorem dX11_status_5 : decode cX11_status 5 = .ok (.bipush 6, 2) := by decide +kernel
theorem dX11_status_7 : decode cX11_status 7 = .ok (.if_icmp .ge 12, 3) := by decide +kernel
theorem dX11_status_10 : decode cX11_status 10 = .ok (.aload_n 0, 1) := by decide +kernel
theorem dX11_status_11 : decode cX11_status 11 = .ok (.getfield 103, 3) := by decide +kernel
theorem dX11_status_14 : decode cX11_status 14 = .ok (.iload_n 1, 1) := by decide +kernel
theorem dX11_status_15 : decode cX11_status 15 = .ok (.iaload, 1) := by decide +kernel
theorem dX11_status_16 : decode cX11_status 16 = .ok (.goto 4, 3) := by decide +kernel
theorem w_5_148 : (Cond.code yX11_status cX11_status 2 (some .int)) ∈ wsL_law := sk_mem (ck_5 _ (List.mem_of_getElem? (i := 148) rfl)) rfl
set_option maxHeartbeats 4000000 in
set_option maxRecDepth 100000 in
theorem c_x_status (l : Launch) (D : va_G) (cI cJ cC cZ cS : ClassId) (x0 : Nat) (q : Nat → Nat) (w : Int32)  : skM l yX11_status cX11_status 2 (some .int) 0 0 0 0 D (skT cI cJ cC cZ cS) [.ref x0, .int w] [(x0, .inr (11, [.ref (q 0), .ref (q 1), .ref (q 2), .ref (q 3), .ref (q 4), .ref (q 5), .ref (q 6), .ref (q 7), .ref (q 8), .ref (q 9), .ref (q 10), .ref (q 11), .ref (q 12), .ref (q 13), .ref (q 14), .int 0, .ref (q 16), .long 1])), (q 16, .inl (cI, 6, .inl (fun _ => 0)))] (skI D (skT cI cJ cC cZ cS) (fun (r : Int32) (u : va_W) => r = sp_status w ∧ u = [])) := by
  refine skM_of (by decide) (Nat.le_of_ble_eq_true rfl) ?_
  intro p e s m below meth c A ls E hP hD hl
  obtain ⟨hx, hb, hr, hml, hlocks, hin, hown, hts, hK, hA⟩ := E
  have hown : s.vm.findClass RX11 = some m.cls := hown
  have hS : va_S A s.heap s.heap [] := va_S.rf
  have hl : lv_has ls 2 [(0, .ref x0), (1, .int w)] := hl
  refine lv_iload_n hx hb dX11_status_0 rfl (lv_at hl 1 rfl) ?_
  refine lv_if_lt (tgt := 19) hx hb dX11_status_1 (by decide) (fun c_1 => ?_) (fun c_1 => ?_)
  · refine lv_iconst (v := (-1)) hx hb dX11_status_19 (by decide) ?_
    have hP := hP.sub (ws' := []) [] rfl
    have hD := hD.sub (ws' := []) [] (by decide) rfl
    exact sk_iret hx hb hr rfl hlocks hK hP hD hS (⟨by simp only [sp_status, if_pos c_1], rfl⟩) (Nat.le_of_ble_eq_true rfl) (Nat.le_of_ble_eq_true rfl) dX11_status_20
  · refine lv_iload_n hx hb dX11_status_4 rfl (lv_at hl 1 rfl) ?_
    refine lv_bipush (v := 6) hx hb dX11_status_5 (by decide) ?_
    refine lv_icmp_ge (tgt := 19) hx hb dX11_status_7 (by decide) (fun c_2 => ?_) (fun c_2 => ?_)
    · refine lv_iconst (v := (-1)) hx hb dX11_status_19 (by decide) ?_
      have hP := hP.sub (ws' := []) [] rfl
      have hD := hD.sub (ws' := []) [] (by decide) rfl
      exact sk_iret hx hb hr rfl hlocks hK hP hD hS (⟨by simp only [sp_status, if_neg c_1, if_pos c_2], rfl⟩) (Nat.le_of_ble_eq_true rfl) (Nat.le_of_ble_eq_true rfl) dX11_status_20
    · refine lv_aload_n hx hb dX11_status_10 rfl (lv_at hl 0 rfl) ?_
      refine sk_get (v := .ref (q 16)) (C := RX11) (T := TX11) (N := 18) hx hb hts inlX11 hown hK hP 0 rfl rfl 16 (by decide) w_2_139 rfl dX11_status_11 ?_
      refine lv_iload_n hx hb dX11_status_14 rfl (lv_at hl 1 rfl) ?_
      refine va_iald hx hb hK.1 hP 1 0 rfl rfl (sk_in6 c_1 c_2) dX11_status_15 ?_
      refine sk_top 0 rfl ?_
      refine lv_goto (tgt := 20) hx hb dX11_status_16 (by decide) ?_
      have hP := hP.sub (ws' := []) [] rfl
      have hD := hD.sub (ws' := []) [] (by decide) rfl
      exact sk_iret hx hb hr rfl hlocks hK hP hD hS (⟨by simp only [sp_status, if_neg c_1, if_neg c_2], rfl⟩) (Nat.le_of_ble_eq_true rfl) (Nat.le_of_ble_eq_true rfl) dX11_status_20
end
