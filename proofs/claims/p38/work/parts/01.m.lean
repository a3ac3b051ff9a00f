section
-- ===== PART A: goes FIRST, ahead of the names: the tables' words, and 'selects' of the private methods out of them =====
/-- a private method of a class that the tables say can be made, by its rows of tables_1 -/
def lw_okq (q : MethodName × Nat) : Prop := (q.1.cls ≠ "java/lang/invoke/MethodHandle" ∧ q.1.cls ≠ "java/lang/invoke/VarHandle") ∧ Cond.instantiable q.1.cls q.2 ∈ tables_1 ∧ Cond.privateMethod q.1 ∈ tables_1 ∧ Cond.instanceMethod q.1 ∈ tables_1
theorem lw_p0 : lw_okq (⟨"HandLock$Reader", "next", "()V"⟩, 13) := ⟨⟨by decide +kernel, by decide +kernel⟩, List.mem_of_getElem? (i := 26) (by decide +kernel), List.mem_of_getElem? (i := 297) (by decide +kernel), List.mem_of_getElem? (i := 298) (by decide +kernel)⟩
theorem lw_p1 : lw_okq (⟨"HandLock$Reader", "allAreThere", "()Z"⟩, 13) := ⟨⟨by decide +kernel, by decide +kernel⟩, List.mem_of_getElem? (i := 26) (by decide +kernel), List.mem_of_getElem? (i := 307) (by decide +kernel), List.mem_of_getElem? (i := 308) (by decide +kernel)⟩
theorem lw_p2 : lw_okq (⟨"HandLock$Reader", "fail", "(II)Z"⟩, 13) := ⟨⟨by decide +kernel, by decide +kernel⟩, List.mem_of_getElem? (i := 26) (by decide +kernel), List.mem_of_getElem? (i := 311) (by decide +kernel), List.mem_of_getElem? (i := 312) (by decide +kernel)⟩
theorem lw_p3 : lw_okq (⟨"HandLock$Reader", "readLine", "()Z"⟩, 13) := ⟨⟨by decide +kernel, by decide +kernel⟩, List.mem_of_getElem? (i := 26) (by decide +kernel), List.mem_of_getElem? (i := 319) (by decide +kernel), List.mem_of_getElem? (i := 320) (by decide +kernel)⟩
theorem lw_p4 : lw_okq (⟨"HandLock$Reader", "failToken", "()Z"⟩, 13) := ⟨⟨by decide +kernel, by decide +kernel⟩, List.mem_of_getElem? (i := 26) (by decide +kernel), List.mem_of_getElem? (i := 323) (by decide +kernel), List.mem_of_getElem? (i := 324) (by decide +kernel)⟩
theorem lw_p5 : lw_okq (⟨"HandLock$Reader", "word", "()I"⟩, 13) := ⟨⟨by decide +kernel, by decide +kernel⟩, List.mem_of_getElem? (i := 26) (by decide +kernel), List.mem_of_getElem? (i := 327) (by decide +kernel), List.mem_of_getElem? (i := 328) (by decide +kernel)⟩
theorem lw_p6 : lw_okq (⟨"HandLock$Reader", "spells", "(Ljava/lang/String;)Z"⟩, 13) := ⟨⟨by decide +kernel, by decide +kernel⟩, List.mem_of_getElem? (i := 26) (by decide +kernel), List.mem_of_getElem? (i := 341) (by decide +kernel), List.mem_of_getElem? (i := 342) (by decide +kernel)⟩
theorem lw_p7 : lw_okq (⟨"HandLock$Reader", "readOne", "(I)Z"⟩, 13) := ⟨⟨by decide +kernel, by decide +kernel⟩, List.mem_of_getElem? (i := 26) (by decide +kernel), List.mem_of_getElem? (i := 393) (by decide +kernel), List.mem_of_getElem? (i := 394) (by decide +kernel)⟩
theorem lw_p8 : lw_okq (⟨"HandLock$Reader", "wantsNumber", "(I)Z"⟩, 13) := ⟨⟨by decide +kernel, by decide +kernel⟩, List.mem_of_getElem? (i := 26) (by decide +kernel), List.mem_of_getElem? (i := 397) (by decide +kernel), List.mem_of_getElem? (i := 398) (by decide +kernel)⟩
theorem lw_p9 : lw_okq (⟨"HandLock$Reader", "wantsStop", "()Z"⟩, 13) := ⟨⟨by decide +kernel, by decide +kernel⟩, List.mem_of_getElem? (i := 26) (by decide +kernel), List.mem_of_getElem? (i := 405) (by decide +kernel), List.mem_of_getElem? (i := 406) (by decide +kernel)⟩
theorem lw_p10 : lw_okq (⟨"HandLock$Reader", "readLeft", "()Z"⟩, 13) := ⟨⟨by decide +kernel, by decide +kernel⟩, List.mem_of_getElem? (i := 26) (by decide +kernel), List.mem_of_getElem? (i := 409) (by decide +kernel), List.mem_of_getElem? (i := 410) (by decide +kernel)⟩
theorem lw_p11 : lw_okq (⟨"HandLock$Reader", "readSlack", "()Z"⟩, 13) := ⟨⟨by decide +kernel, by decide +kernel⟩, List.mem_of_getElem? (i := 26) (by decide +kernel), List.mem_of_getElem? (i := 413) (by decide +kernel), List.mem_of_getElem? (i := 414) (by decide +kernel)⟩
theorem lw_p12 : lw_okq (⟨"HandLock$Reader", "readPlan", "()Z"⟩, 13) := ⟨⟨by decide +kernel, by decide +kernel⟩, List.mem_of_getElem? (i := 26) (by decide +kernel), List.mem_of_getElem? (i := 417) (by decide +kernel), List.mem_of_getElem? (i := 418) (by decide +kernel)⟩
theorem lw_p13 : lw_okq (⟨"HandLock$Lock", "leastOf", "(I)I"⟩, 6) := ⟨⟨by decide +kernel, by decide +kernel⟩, List.mem_of_getElem? (i := 32) (by decide +kernel), List.mem_of_getElem? (i := 510) (by decide +kernel), List.mem_of_getElem? (i := 511) (by decide +kernel)⟩
theorem lw_p14 : lw_okq (⟨"HandLock", "rehearse", "()I"⟩, 9) := ⟨⟨by decide +kernel, by decide +kernel⟩, List.mem_of_getElem? (i := 18) (by decide +kernel), List.mem_of_getElem? (i := 544) (by decide +kernel), List.mem_of_getElem? (i := 545) (by decide +kernel)⟩
theorem lw_p15 : lw_okq (⟨"HandLock$Rehearsal", "note", "(I)V"⟩, 5) := ⟨⟨by decide +kernel, by decide +kernel⟩, List.mem_of_getElem? (i := 149) (by decide +kernel), List.mem_of_getElem? (i := 557) (by decide +kernel), List.mem_of_getElem? (i := 558) (by decide +kernel)⟩
def lw_privs_1 : List (MethodName × Nat) := [(⟨"HandLock$Reader", "next", "()V"⟩, 13), (⟨"HandLock$Reader", "allAreThere", "()Z"⟩, 13), (⟨"HandLock$Reader", "fail", "(II)Z"⟩, 13), (⟨"HandLock$Reader", "readLine", "()Z"⟩, 13), (⟨"HandLock$Reader", "failToken", "()Z"⟩, 13), (⟨"HandLock$Reader", "word", "()I"⟩, 13), (⟨"HandLock$Reader", "spells", "(Ljava/lang/String;)Z"⟩, 13), (⟨"HandLock$Reader", "readOne", "(I)Z"⟩, 13), (⟨"HandLock$Reader", "wantsNumber", "(I)Z"⟩, 13), (⟨"HandLock$Reader", "wantsStop", "()Z"⟩, 13), (⟨"HandLock$Reader", "readLeft", "()Z"⟩, 13), (⟨"HandLock$Reader", "readSlack", "()Z"⟩, 13), (⟨"HandLock$Reader", "readPlan", "()Z"⟩, 13), (⟨"HandLock$Lock", "leastOf", "(I)I"⟩, 6), (⟨"HandLock", "rehearse", "()I"⟩, 9), (⟨"HandLock$Rehearsal", "note", "(I)V"⟩, 5)]
theorem lw_r1 : ∀ q ∈ lw_privs_1, lw_okq q := List.forall_mem_cons.mpr ⟨lw_p0, List.forall_mem_cons.mpr ⟨lw_p1, List.forall_mem_cons.mpr ⟨lw_p2, List.forall_mem_cons.mpr ⟨lw_p3, List.forall_mem_cons.mpr ⟨lw_p4, List.forall_mem_cons.mpr ⟨lw_p5, List.forall_mem_cons.mpr ⟨lw_p6, List.forall_mem_cons.mpr ⟨lw_p7, List.forall_mem_cons.mpr ⟨lw_p8, List.forall_mem_cons.mpr ⟨lw_p9, List.forall_mem_cons.mpr ⟨lw_p10, List.forall_mem_cons.mpr ⟨lw_p11, List.forall_mem_cons.mpr ⟨lw_p12, List.forall_mem_cons.mpr ⟨lw_p13, List.forall_mem_cons.mpr ⟨lw_p14, List.forall_mem_cons.mpr ⟨lw_p15, fun _ h => absurd h List.not_mem_nil⟩⟩⟩⟩⟩⟩⟩⟩⟩⟩⟩⟩⟩⟩⟩⟩
theorem lw_p16 : lw_okq (⟨"HandLock$Search", "arrange", "(III)V"⟩, 5) := ⟨⟨by decide +kernel, by decide +kernel⟩, List.mem_of_getElem? (i := 178) (by decide +kernel), List.mem_of_getElem? (i := 592) (by decide +kernel), List.mem_of_getElem? (i := 593) (by decide +kernel)⟩
theorem lw_p17 : lw_okq (⟨"HandLock$Search", "takeIfBetter", "(I)V"⟩, 5) := ⟨⟨by decide +kernel, by decide +kernel⟩, List.mem_of_getElem? (i := 178) (by decide +kernel), List.mem_of_getElem? (i := 596) (by decide +kernel), List.mem_of_getElem? (i := 597) (by decide +kernel)⟩
theorem lw_p18 : lw_okq (⟨"HandLock$Search", "makesWay", "(II)Z"⟩, 5) := ⟨⟨by decide +kernel, by decide +kernel⟩, List.mem_of_getElem? (i := 178) (by decide +kernel), List.mem_of_getElem? (i := 615) (by decide +kernel), List.mem_of_getElem? (i := 616) (by decide +kernel)⟩
theorem lw_p19 : lw_okq (⟨"HandLock", "rehearseWith", "(II)I"⟩, 9) := ⟨⟨by decide +kernel, by decide +kernel⟩, List.mem_of_getElem? (i := 18) (by decide +kernel), List.mem_of_getElem? (i := 629) (by decide +kernel), List.mem_of_getElem? (i := 630) (by decide +kernel)⟩
theorem lw_p20 : lw_okq (⟨"HandLock", "rehearseSlack", "(I)V"⟩, 9) := ⟨⟨by decide +kernel, by decide +kernel⟩, List.mem_of_getElem? (i := 18) (by decide +kernel), List.mem_of_getElem? (i := 647) (by decide +kernel), List.mem_of_getElem? (i := 648) (by decide +kernel)⟩
theorem lw_p21 : lw_okq (⟨"HandLock", "odds", "(II)J"⟩, 9) := ⟨⟨by decide +kernel, by decide +kernel⟩, List.mem_of_getElem? (i := 18) (by decide +kernel), List.mem_of_getElem? (i := 656) (by decide +kernel), List.mem_of_getElem? (i := 657) (by decide +kernel)⟩
theorem lw_p22 : lw_okq (⟨"HandLock", "rehearseWithout", "(I)I"⟩, 9) := ⟨⟨by decide +kernel, by decide +kernel⟩, List.mem_of_getElem? (i := 18) (by decide +kernel), List.mem_of_getElem? (i := 660) (by decide +kernel), List.mem_of_getElem? (i := 661) (by decide +kernel)⟩
theorem lw_p23 : lw_okq (⟨"HandLock", "allOdds", "()J"⟩, 9) := ⟨⟨by decide +kernel, by decide +kernel⟩, List.mem_of_getElem? (i := 18) (by decide +kernel), List.mem_of_getElem? (i := 664) (by decide +kernel), List.mem_of_getElem? (i := 665) (by decide +kernel)⟩
theorem lw_p24 : lw_okq (⟨"HandLock", "tallyGuesses", "(I)I"⟩, 9) := ⟨⟨by decide +kernel, by decide +kernel⟩, List.mem_of_getElem? (i := 18) (by decide +kernel), List.mem_of_getElem? (i := 707) (by decide +kernel), List.mem_of_getElem? (i := 708) (by decide +kernel)⟩
theorem lw_p25 : lw_okq (⟨"HandLockModel", "step", "()V"⟩, 31) := ⟨⟨by decide +kernel, by decide +kernel⟩, List.mem_of_getElem? (i := 785) (by decide +kernel), List.mem_of_getElem? (i := 901) (by decide +kernel), List.mem_of_getElem? (i := 902) (by decide +kernel)⟩
theorem lw_p26 : lw_okq (⟨"HandLockModel", "byteAt", "(I)I"⟩, 31) := ⟨⟨by decide +kernel, by decide +kernel⟩, List.mem_of_getElem? (i := 785) (by decide +kernel), List.mem_of_getElem? (i := 905) (by decide +kernel), List.mem_of_getElem? (i := 906) (by decide +kernel)⟩
theorem lw_p27 : lw_okq (⟨"HandLockModel", "fails", "(I)V"⟩, 31) := ⟨⟨by decide +kernel, by decide +kernel⟩, List.mem_of_getElem? (i := 785) (by decide +kernel), List.mem_of_getElem? (i := 913) (by decide +kernel), List.mem_of_getElem? (i := 914) (by decide +kernel)⟩
theorem lw_p28 : lw_okq (⟨"HandLockModel", "readLine", "()V"⟩, 31) := ⟨⟨by decide +kernel, by decide +kernel⟩, List.mem_of_getElem? (i := 785) (by decide +kernel), List.mem_of_getElem? (i := 917) (by decide +kernel), List.mem_of_getElem? (i := 918) (by decide +kernel)⟩
theorem lw_p29 : lw_okq (⟨"HandLockModel", "nameHere", "()I"⟩, 31) := ⟨⟨by decide +kernel, by decide +kernel⟩, List.mem_of_getElem? (i := 785) (by decide +kernel), List.mem_of_getElem? (i := 921) (by decide +kernel), List.mem_of_getElem? (i := 922) (by decide +kernel)⟩
theorem lw_p30 : lw_okq (⟨"HandLockModel", "readMore", "(I)V"⟩, 31) := ⟨⟨by decide +kernel, by decide +kernel⟩, List.mem_of_getElem? (i := 785) (by decide +kernel), List.mem_of_getElem? (i := 926) (by decide +kernel), List.mem_of_getElem? (i := 927) (by decide +kernel)⟩
theorem lw_p31 : lw_okq (⟨"HandLockModel", "other", "(III)I"⟩, 31) := ⟨⟨by decide +kernel, by decide +kernel⟩, List.mem_of_getElem? (i := 785) (by decide +kernel), List.mem_of_getElem? (i := 930) (by decide +kernel), List.mem_of_getElem? (i := 931) (by decide +kernel)⟩
def lw_privs_2 : List (MethodName × Nat) := [(⟨"HandLock$Search", "arrange", "(III)V"⟩, 5), (⟨"HandLock$Search", "takeIfBetter", "(I)V"⟩, 5), (⟨"HandLock$Search", "makesWay", "(II)Z"⟩, 5), (⟨"HandLock", "rehearseWith", "(II)I"⟩, 9), (⟨"HandLock", "rehearseSlack", "(I)V"⟩, 9), (⟨"HandLock", "odds", "(II)J"⟩, 9), (⟨"HandLock", "rehearseWithout", "(I)I"⟩, 9), (⟨"HandLock", "allOdds", "()J"⟩, 9), (⟨"HandLock", "tallyGuesses", "(I)I"⟩, 9), (⟨"HandLockModel", "step", "()V"⟩, 31), (⟨"HandLockModel", "byteAt", "(I)I"⟩, 31), (⟨"HandLockModel", "fails", "(I)V"⟩, 31), (⟨"HandLockModel", "readLine", "()V"⟩, 31), (⟨"HandLockModel", "nameHere", "()I"⟩, 31), (⟨"HandLockModel", "readMore", "(I)V"⟩, 31), (⟨"HandLockModel", "other", "(III)I"⟩, 31)]
theorem lw_r2 : ∀ q ∈ lw_privs_2, lw_okq q := List.forall_mem_cons.mpr ⟨lw_p16, List.forall_mem_cons.mpr ⟨lw_p17, List.forall_mem_cons.mpr ⟨lw_p18, List.forall_mem_cons.mpr ⟨lw_p19, List.forall_mem_cons.mpr ⟨lw_p20, List.forall_mem_cons.mpr ⟨lw_p21, List.forall_mem_cons.mpr ⟨lw_p22, List.forall_mem_cons.mpr ⟨lw_p23, List.forall_mem_cons.mpr ⟨lw_p24, List.forall_mem_cons.mpr ⟨lw_p25, List.forall_mem_cons.mpr ⟨lw_p26, List.forall_mem_cons.mpr ⟨lw_p27, List.forall_mem_cons.mpr ⟨lw_p28, List.forall_mem_cons.mpr ⟨lw_p29, List.forall_mem_cons.mpr ⟨lw_p30, List.forall_mem_cons.mpr ⟨lw_p31, fun _ h => absurd h List.not_mem_nil⟩⟩⟩⟩⟩⟩⟩⟩⟩⟩⟩⟩⟩⟩⟩⟩
theorem lw_p32 : lw_okq (⟨"HandLockModel", "readPlan", "()V"⟩, 31) := ⟨⟨by decide +kernel, by decide +kernel⟩, List.mem_of_getElem? (i := 785) (by decide +kernel), List.mem_of_getElem? (i := 934) (by decide +kernel), List.mem_of_getElem? (i := 935) (by decide +kernel)⟩
theorem lw_p33 : lw_okq (⟨"HandLockModel", "isNear", "(II)Z"⟩, 31) := ⟨⟨by decide +kernel, by decide +kernel⟩, List.mem_of_getElem? (i := 785) (by decide +kernel), List.mem_of_getElem? (i := 946) (by decide +kernel), List.mem_of_getElem? (i := 947) (by decide +kernel)⟩
theorem lw_p34 : lw_okq (⟨"HandLockModel", "countOf", "(II)I"⟩, 31) := ⟨⟨by decide +kernel, by decide +kernel⟩, List.mem_of_getElem? (i := 785) (by decide +kernel), List.mem_of_getElem? (i := 950) (by decide +kernel), List.mem_of_getElem? (i := 951) (by decide +kernel)⟩
theorem lw_p35 : lw_okq (⟨"HandLockModel", "countAt", "(II)I"⟩, 31) := ⟨⟨by decide +kernel, by decide +kernel⟩, List.mem_of_getElem? (i := 785) (by decide +kernel), List.mem_of_getElem? (i := 954) (by decide +kernel), List.mem_of_getElem? (i := 955) (by decide +kernel)⟩
theorem lw_p36 : lw_okq (⟨"HandLockModel", "leastOn", "(I)I"⟩, 31) := ⟨⟨by decide +kernel, by decide +kernel⟩, List.mem_of_getElem? (i := 785) (by decide +kernel), List.mem_of_getElem? (i := 958) (by decide +kernel), List.mem_of_getElem? (i := 959) (by decide +kernel)⟩
theorem lw_p37 : lw_okq (⟨"HandLockModel", "isOne", "(I)Z"⟩, 31) := ⟨⟨by decide +kernel, by decide +kernel⟩, List.mem_of_getElem? (i := 785) (by decide +kernel), List.mem_of_getElem? (i := 966) (by decide +kernel), List.mem_of_getElem? (i := 967) (by decide +kernel)⟩
theorem lw_p38 : lw_okq (⟨"HandLockModel", "puts", "(ZIII)I"⟩, 31) := ⟨⟨by decide +kernel, by decide +kernel⟩, List.mem_of_getElem? (i := 785) (by decide +kernel), List.mem_of_getElem? (i := 981) (by decide +kernel), List.mem_of_getElem? (i := 982) (by decide +kernel)⟩
theorem lw_p39 : lw_okq (⟨"HandLockModel", "all", "()I"⟩, 31) := ⟨⟨by decide +kernel, by decide +kernel⟩, List.mem_of_getElem? (i := 785) (by decide +kernel), List.mem_of_getElem? (i := 994) (by decide +kernel), List.mem_of_getElem? (i := 995) (by decide +kernel)⟩
theorem lw_p40 : lw_okq (⟨"HandLockModel", "turns", "(I)I"⟩, 31) := ⟨⟨by decide +kernel, by decide +kernel⟩, List.mem_of_getElem? (i := 785) (by decide +kernel), List.mem_of_getElem? (i := 1006) (by decide +kernel), List.mem_of_getElem? (i := 1007) (by decide +kernel)⟩
theorem lw_p41 : lw_okq (⟨"HandLockModel", "triesOn", "(II)I"⟩, 31) := ⟨⟨by decide +kernel, by decide +kernel⟩, List.mem_of_getElem? (i := 785) (by decide +kernel), List.mem_of_getElem? (i := 1010) (by decide +kernel), List.mem_of_getElem? (i := 1011) (by decide +kernel)⟩
theorem lw_p42 : lw_okq (⟨"HandLockModel", "restsOn", "(I)V"⟩, 31) := ⟨⟨by decide +kernel, by decide +kernel⟩, List.mem_of_getElem? (i := 785) (by decide +kernel), List.mem_of_getElem? (i := 1018) (by decide +kernel), List.mem_of_getElem? (i := 1019) (by decide +kernel)⟩
theorem lw_p43 : lw_okq (⟨"HandLockModel", "tries", "(I)V"⟩, 31) := ⟨⟨by decide +kernel, by decide +kernel⟩, List.mem_of_getElem? (i := 785) (by decide +kernel), List.mem_of_getElem? (i := 1026) (by decide +kernel), List.mem_of_getElem? (i := 1027) (by decide +kernel)⟩
theorem lw_p44 : lw_okq (⟨"HandLockModel", "copies", "(II)V"⟩, 31) := ⟨⟨by decide +kernel, by decide +kernel⟩, List.mem_of_getElem? (i := 785) (by decide +kernel), List.mem_of_getElem? (i := 1030) (by decide +kernel), List.mem_of_getElem? (i := 1031) (by decide +kernel)⟩
theorem lw_p45 : lw_okq (⟨"HandLockModel", "planGoes", "(I)V"⟩, 31) := ⟨⟨by decide +kernel, by decide +kernel⟩, List.mem_of_getElem? (i := 785) (by decide +kernel), List.mem_of_getElem? (i := 1034) (by decide +kernel), List.mem_of_getElem? (i := 1035) (by decide +kernel)⟩
theorem lw_p46 : lw_okq (⟨"HandLockModel", "mostOn", "(I)I"⟩, 31) := ⟨⟨by decide +kernel, by decide +kernel⟩, List.mem_of_getElem? (i := 785) (by decide +kernel), List.mem_of_getElem? (i := 1038) (by decide +kernel), List.mem_of_getElem? (i := 1039) (by decide +kernel)⟩
theorem lw_p47 : lw_okq (⟨"HandLockModel", "isBehind", "(III)Z"⟩, 31) := ⟨⟨by decide +kernel, by decide +kernel⟩, List.mem_of_getElem? (i := 785) (by decide +kernel), List.mem_of_getElem? (i := 1070) (by decide +kernel), List.mem_of_getElem? (i := 1071) (by decide +kernel)⟩
def lw_privs_3 : List (MethodName × Nat) := [(⟨"HandLockModel", "readPlan", "()V"⟩, 31), (⟨"HandLockModel", "isNear", "(II)Z"⟩, 31), (⟨"HandLockModel", "countOf", "(II)I"⟩, 31), (⟨"HandLockModel", "countAt", "(II)I"⟩, 31), (⟨"HandLockModel", "leastOn", "(I)I"⟩, 31), (⟨"HandLockModel", "isOne", "(I)Z"⟩, 31), (⟨"HandLockModel", "puts", "(ZIII)I"⟩, 31), (⟨"HandLockModel", "all", "()I"⟩, 31), (⟨"HandLockModel", "turns", "(I)I"⟩, 31), (⟨"HandLockModel", "triesOn", "(II)I"⟩, 31), (⟨"HandLockModel", "restsOn", "(I)V"⟩, 31), (⟨"HandLockModel", "tries", "(I)V"⟩, 31), (⟨"HandLockModel", "copies", "(II)V"⟩, 31), (⟨"HandLockModel", "planGoes", "(I)V"⟩, 31), (⟨"HandLockModel", "mostOn", "(I)I"⟩, 31), (⟨"HandLockModel", "isBehind", "(III)Z"⟩, 31)]
theorem lw_r3 : ∀ q ∈ lw_privs_3, lw_okq q := List.forall_mem_cons.mpr ⟨lw_p32, List.forall_mem_cons.mpr ⟨lw_p33, List.forall_mem_cons.mpr ⟨lw_p34, List.forall_mem_cons.mpr ⟨lw_p35, List.forall_mem_cons.mpr ⟨lw_p36, List.forall_mem_cons.mpr ⟨lw_p37, List.forall_mem_cons.mpr ⟨lw_p38, List.forall_mem_cons.mpr ⟨lw_p39, List.forall_mem_cons.mpr ⟨lw_p40, List.forall_mem_cons.mpr ⟨lw_p41, List.forall_mem_cons.mpr ⟨lw_p42, List.forall_mem_cons.mpr ⟨lw_p43, List.forall_mem_cons.mpr ⟨lw_p44, List.forall_mem_cons.mpr ⟨lw_p45, List.forall_mem_cons.mpr ⟨lw_p46, List.forall_mem_cons.mpr ⟨lw_p47, fun _ h => absurd h List.not_mem_nil⟩⟩⟩⟩⟩⟩⟩⟩⟩⟩⟩⟩⟩⟩⟩⟩
theorem lw_p48 : lw_okq (⟨"HandLockModel", "byAway", "(III)J"⟩, 31) := ⟨⟨by decide +kernel, by decide +kernel⟩, List.mem_of_getElem? (i := 785) (by decide +kernel), List.mem_of_getElem? (i := 1094) (by decide +kernel), List.mem_of_getElem? (i := 1095) (by decide +kernel)⟩
theorem lw_p49 : lw_okq (⟨"HandLockModel", "fitsOf", "(I)I"⟩, 31) := ⟨⟨by decide +kernel, by decide +kernel⟩, List.mem_of_getElem? (i := 785) (by decide +kernel), List.mem_of_getElem? (i := 1119) (by decide +kernel), List.mem_of_getElem? (i := 1120) (by decide +kernel)⟩
theorem lw_p50 : lw_okq (⟨"HandLockModel", "isAsSeen", "()Z"⟩, 31) := ⟨⟨by decide +kernel, by decide +kernel⟩, List.mem_of_getElem? (i := 785) (by decide +kernel), List.mem_of_getElem? (i := 1123) (by decide +kernel), List.mem_of_getElem? (i := 1124) (by decide +kernel)⟩
def lw_privs_4 : List (MethodName × Nat) := [(⟨"HandLockModel", "byAway", "(III)J"⟩, 31), (⟨"HandLockModel", "fitsOf", "(I)I"⟩, 31), (⟨"HandLockModel", "isAsSeen", "()Z"⟩, 31)]
theorem lw_r4 : ∀ q ∈ lw_privs_4, lw_okq q := List.forall_mem_cons.mpr ⟨lw_p48, List.forall_mem_cons.mpr ⟨lw_p49, List.forall_mem_cons.mpr ⟨lw_p50, fun _ h => absurd h List.not_mem_nil⟩⟩⟩
def lw_privs : List (MethodName × Nat) := lw_privs_1 ++ (lw_privs_2 ++ (lw_privs_3 ++ (lw_privs_4)))
def lw_tbl : List Cond := k2_sels lw_privs ++ tables_1
theorem lw_privs_ok : ∀ q ∈ lw_privs, lw_okq q := by
  show ∀ q ∈ lw_privs_1 ++ (lw_privs_2 ++ (lw_privs_3 ++ (lw_privs_4))), lw_okq q
  exact List.forall_mem_append.mpr ⟨lw_r1, List.forall_mem_append.mpr ⟨lw_r2, List.forall_mem_append.mpr ⟨lw_r3, lw_r4⟩⟩⟩
end
section
def RX0 : String := "HandLock$Lock"
def TX0 : u_T := fun k => match k with
  | 0 => ("HandLock$Lock", "folk", "[LHandLock$Person;", true)
  | 1 => ("HandLock$Lock", "plan", "[I", true)
  | 2 => ("HandLock$Lock", "people", "I", false)
  | 3 => ("HandLock$Lock", "acts", "I", false)
  | 4 => ("HandLock$Lock", "slack", "I", false)
  | _ => ("HandLock$Lock", "tried", "I", false)
def tyX0 : Nat → FieldType := fun k => match k with
  | 0 => .array (.object "HandLock$Person")
  | 1 => .array .int
  | 2 => .int
  | 3 => .int
  | 4 => .int
  | _ => .int
abbrev wsX00 : List Cond := u_ws RX0 TX0 6
theorem nmX0 : ∀ a, a < 6 → ∀ b, b < 6 → a ≠ b → (TX0 a).2.1 ≠ (TX0 b).2.1 := by decide +kernel
theorem tyX0_ok : ∀ k, k < 6 → parseFieldDescriptor (TX0 k).2.2.1 = some (tyX0 k) := by decide +kernel
def RX1 : String := "HandLock$Person"
def TX1 : u_T := fun k => match k with
  | 0 => ("HandLock$Person", "kind", "I", false)
  | 1 => ("HandLock$Person", "right", "I", false)
  | 2 => ("HandLock$Person", "left", "I", false)
  | _ => ("HandLock$Person", "hand", "I", false)
def tyX1 : Nat → FieldType := fun k => match k with
  | 0 => .int
  | 1 => .int
  | 2 => .int
  | _ => .int
abbrev wsX10 : List Cond := u_ws RX1 TX1 4
theorem nmX1 : ∀ a, a < 4 → ∀ b, b < 4 → a ≠ b → (TX1 a).2.1 ≠ (TX1 b).2.1 := by decide +kernel
theorem tyX1_ok : ∀ k, k < 4 → parseFieldDescriptor (TX1 k).2.2.1 = some (tyX1 k) := by decide +kernel
def RX2 : String := "HandLock$Reader"
def TX2 : u_T := fun k => match k with
  | 0 => ("HandLock$Reader", "tape", "[B", true)
  | 1 => ("HandLock$Reader", "draft", "LHandLock$Lock;", true)
  | 2 => ("HandLock$Reader", "length", "I", false)
  | 3 => ("HandLock$Reader", "lines", "I", false)
  | 4 => ("HandLock$Reader", "fault", "I", false)
  | 5 => ("HandLock$Reader", "faultPlace", "I", false)
  | 6 => ("HandLock$Reader", "place", "I", false)
  | 7 => ("HandLock$Reader", "token", "I", false)
  | 8 => ("HandLock$Reader", "start", "I", false)
  | 9 => ("HandLock$Reader", "value", "I", false)
  | 10 => ("HandLock$Reader", "lefts", "I", false)
  | 11 => ("HandLock$Reader", "slackTold", "Z", false)
  | _ => ("HandLock$Reader", "planTold", "Z", false)
def tyX2 : Nat → FieldType := fun k => match k with
  | 0 => .array .byte
  | 1 => .object "HandLock$Lock"
  | 2 => .int
  | 3 => .int
  | 4 => .int
  | 5 => .int
  | 6 => .int
  | 7 => .int
  | 8 => .int
  | 9 => .int
  | 10 => .int
  | 11 => .boolean
  | _ => .boolean
abbrev wsX20 : List Cond := u_ws RX2 TX2 13
theorem nmX2 : ∀ a, a < 13 → ∀ b, b < 13 → a ≠ b → (TX2 a).2.1 ≠ (TX2 b).2.1 := by decide +kernel
theorem tyX2_ok : ∀ k, k < 13 → parseFieldDescriptor (TX2 k).2.2.1 = some (tyX2 k) := by decide +kernel
def RX3 : String := "HandLock$Rehearsal"
def TX3 : u_T := fun k => match k with
  | 0 => ("HandLock$Rehearsal", "stage", "LHandLock$Lock;", true)
  | 1 => ("HandLock$Rehearsal", "entered", "[I", true)
  | 2 => ("HandLock$Rehearsal", "opened", "I", false)
  | 3 => ("HandLock$Rehearsal", "who", "I", false)
  | _ => ("HandLock$Rehearsal", "shut", "I", false)
def tyX3 : Nat → FieldType := fun k => match k with
  | 0 => .object "HandLock$Lock"
  | 1 => .array .int
  | 2 => .int
  | 3 => .int
  | _ => .int
abbrev wsX30 : List Cond := u_ws RX3 TX3 5
theorem nmX3 : ∀ a, a < 5 → ∀ b, b < 5 → a ≠ b → (TX3 a).2.1 ≠ (TX3 b).2.1 := by decide +kernel
theorem tyX3_ok : ∀ k, k < 5 → parseFieldDescriptor (TX3 k).2.2.1 = some (tyX3 k) := by decide +kernel
def RX4 : String := "HandLock$Search"
def TX4 : u_T := fun k => match k with
  | 0 => ("HandLock$Search", "stage", "LHandLock$Lock;", true)
  | 1 => ("HandLock$Search", "trial", "[I", true)
  | 2 => ("HandLock$Search", "row", "[I", true)
  | 3 => ("HandLock$Search", "size", "I", false)
  | _ => ("HandLock$Search", "most", "I", false)
def tyX4 : Nat → FieldType := fun k => match k with
  | 0 => .object "HandLock$Lock"
  | 1 => .array .int
  | 2 => .array .int
  | 3 => .int
  | _ => .int
abbrev wsX40 : List Cond := u_ws RX4 TX4 5
theorem nmX4 : ∀ a, a < 5 → ∀ b, b < 5 → a ≠ b → (TX4 a).2.1 ≠ (TX4 b).2.1 := by decide +kernel
theorem tyX4_ok : ∀ k, k < 5 → parseFieldDescriptor (TX4 k).2.2.1 = some (tyX4 k) := by decide +kernel
def RX5 : String := "HandLock$Sheet"
def TX5 : u_T := fun k => match k with
  | 0 => ("HandLock$Sheet", "cells", "[I", true)
  | 1 => ("HandLock$Sheet", "there", "Z", false)
  | 2 => ("HandLock$Sheet", "lane", "I", false)
  | _ => ("HandLock$Sheet", "size", "I", false)
def tyX5 : Nat → FieldType := fun k => match k with
  | 0 => .array .int
  | 1 => .boolean
  | 2 => .int
  | _ => .int
abbrev wsX50 : List Cond := u_ws RX5 TX5 4
theorem nmX5 : ∀ a, a < 4 → ∀ b, b < 4 → a ≠ b → (TX5 a).2.1 ≠ (TX5 b).2.1 := by decide +kernel
theorem tyX5_ok : ∀ k, k < 4 → parseFieldDescriptor (TX5 k).2.2.1 = some (tyX5 k) := by decide +kernel
def RX6 : String := "HandLock$Sightings"
def TX6 : u_T := fun k => match k with
  | 0 => ("HandLock$Sightings", "acts", "[I", true)
  | 1 => ("HandLock$Sightings", "who", "[I", true)
  | 2 => ("HandLock$Sightings", "tally", "[I", true)
  | _ => ("HandLock$Sightings", "size", "I", false)
def tyX6 : Nat → FieldType := fun k => match k with
  | 0 => .array .int
  | 1 => .array .int
  | 2 => .array .int
  | _ => .int
abbrev wsX60 : List Cond := u_ws RX6 TX6 4
theorem nmX6 : ∀ a, a < 4 → ∀ b, b < 4 → a ≠ b → (TX6 a).2.1 ≠ (TX6 b).2.1 := by decide +kernel
theorem tyX6_ok : ∀ k, k < 4 → parseFieldDescriptor (TX6 k).2.2.1 = some (tyX6 k) := by decide +kernel
def RX7 : String := "HandLock"
def TX7 : u_T := fun k => match k with
  | 0 => ("HandLock", "reader", "LHandLock$Reader;", true)
  | 1 => ("HandLock", "now", "LHandLock$Lock;", true)
  | 2 => ("HandLock", "rehearsal", "LHandLock$Rehearsal;", true)
  | 3 => ("HandLock", "search", "LHandLock$Search;", true)
  | 4 => ("HandLock", "seen", "LHandLock$Sightings;", true)
  | 5 => ("HandLock", "images", "[LHandLock$Lock;", true)
  | 6 => ("HandLock", "kept", "[Z", true)
  | 7 => ("HandLock", "sheets", "[LHandLock$Sheet;", true)
  | _ => ("HandLock", "torn", "I", false)
def tyX7 : Nat → FieldType := fun k => match k with
  | 0 => .object "HandLock$Reader"
  | 1 => .object "HandLock$Lock"
  | 2 => .object "HandLock$Rehearsal"
  | 3 => .object "HandLock$Search"
  | 4 => .object "HandLock$Sightings"
  | 5 => .array (.object "HandLock$Lock")
  | 6 => .array .boolean
  | 7 => .array (.object "HandLock$Sheet")
  | _ => .int
abbrev wsX70 : List Cond := u_ws RX7 TX7 9
theorem nmX7 : ∀ a, a < 9 → ∀ b, b < 9 → a ≠ b → (TX7 a).2.1 ≠ (TX7 b).2.1 := by decide +kernel
theorem tyX7_ok : ∀ k, k < 9 → parseFieldDescriptor (TX7 k).2.2.1 = some (tyX7 k) := by decide +kernel
def RX8 : String := "HandLockModel"
def TX8 : u_T := fun k => match k with
  | 0 => ("HandLockModel", "state", "[I", true)
  | 1 => ("HandLockModel", "marks", "[I", true)
  | 2 => ("HandLockModel", "oneMany", "I", false)
  | 3 => ("HandLockModel", "readPage", "[I", true)
  | 4 => ("HandLockModel", "readOnes", "I", false)
  | 5 => ("HandLockModel", "toldOnce", "I", false)
  | 6 => ("HandLockModel", "seenBits", "I", false)
  | 7 => ("HandLockModel", "tape", "[I", true)
  | 8 => ("HandLockModel", "taped", "I", false)
  | 9 => ("HandLockModel", "fault", "I", false)
  | 10 => ("HandLockModel", "broken", "I", false)
  | 11 => ("HandLockModel", "brokenAt", "I", false)
  | 12 => ("HandLockModel", "spot", "I", false)
  | 13 => ("HandLockModel", "here", "I", false)
  | 14 => ("HandLockModel", "token", "I", false)
  | 15 => ("HandLockModel", "value", "I", false)
  | 16 => ("HandLockModel", "cuts", "[I", true)
  | 17 => ("HandLockModel", "letters", "[I", true)
  | 18 => ("HandLockModel", "letMany", "I", false)
  | 19 => ("HandLockModel", "letBits", "I", false)
  | 20 => ("HandLockModel", "firstNot", "I", false)
  | 21 => ("HandLockModel", "letBy", "[I", true)
  | 22 => ("HandLockModel", "seen", "[I", true)
  | 23 => ("HandLockModel", "seenMany", "I", false)
  | 24 => ("HandLockModel", "letOf", "[I", true)
  | 25 => ("HandLockModel", "isFit", "[Z", true)
  | 26 => ("HandLockModel", "isKept", "[Z", true)
  | 27 => ("HandLockModel", "lanes", "[I", true)
  | 28 => ("HandLockModel", "lengths", "[I", true)
  | 29 => ("HandLockModel", "cells", "[I", true)
  | _ => ("HandLockModel", "torn", "I", false)
def tyX8 : Nat → FieldType := fun k => match k with
  | 0 => .array .int
  | 1 => .array .int
  | 2 => .int
  | 3 => .array .int
  | 4 => .int
  | 5 => .int
  | 6 => .int
  | 7 => .array .int
  | 8 => .int
  | 9 => .int
  | 10 => .int
  | 11 => .int
  | 12 => .int
  | 13 => .int
  | 14 => .int
  | 15 => .int
  | 16 => .array .int
  | 17 => .array .int
  | 18 => .int
  | 19 => .int
  | 20 => .int
  | 21 => .array .int
  | 22 => .array .int
  | 23 => .int
  | 24 => .array .int
  | 25 => .array .boolean
  | 26 => .array .boolean
  | 27 => .array .int
  | 28 => .array .int
  | 29 => .array .int
  | _ => .int
abbrev wsX80 : List Cond := u_ws RX8 TX8 31
theorem nmX8 : ∀ a, a < 31 → ∀ b, b < 31 → a ≠ b → (TX8 a).2.1 ≠ (TX8 b).2.1 := by decide +kernel
theorem tyX8_ok : ∀ k, k < 31 → parseFieldDescriptor (TX8 k).2.2.1 = some (tyX8 k) := by decide +kernel
abbrev vwCl : List vw_C := [(RX0, TX0, 6), (RX1, TX1, 4), (RX2, TX2, 13), (RX3, TX3, 5), (RX4, TX4, 5), (RX5, TX5, 4), (RX6, TX6, 4), (RX7, TX7, 9), (RX8, TX8, 31)]
end
section
/-! a small machine over numbered cells: types -/
abbrev zC : Type := (Nat ⊕ Nat) × List Value
abbrev zHp : Type := List zC
abbrev zLo : Type := List (Nat × Value)
abbrev zSt : Type := Nat × zLo × List Value × zHp
abbrev zMi : Type := MethodName × ByteArray × Nat × Option FieldType × Nat × List (List (Option (Instr × Nat)))
abbrev zR : Type := zSt ⊕ ((Nat × Nat × List Value × List Value) ⊕ Option Value)
def zas2 {α : Type} : List (Nat × α) → Nat → Option α
  | [], _ => none
  | (k, v) :: r, i => bif Nat.beq k i then some v else zas2 r i
def zlk {α : Type} (t : List (List (Nat × α))) (o i : Nat) : Option α := match t[o]? with
  | some r => zas2 r i
  | none => none
def zin (t : List (List (Option (Instr × Nat)))) (pc : Nat) : Option (Instr × Nat) := match t[pc / 16]? with
  | some r => (match r[pc % 16]? with
    | some x => x
    | none => none)
  | none => none
theorem zas2_mem {α : Type} {l : List (Nat × α)} {i : Nat} {v : α} (h : zas2 l i = some v) : (i, v) ∈ l := by
  induction l with
  | nil => simp [zas2] at h
  | cons a r ih =>
    obtain ⟨k, w⟩ := a
    simp only [zas2] at h
    cases hb : Nat.beq k i with
    | true =>
      rw [hb] at h
      simp at h
      have hk : k = i := Nat.eq_of_beq_eq_true hb
      subst hk; subst h
      exact List.mem_cons_self
    | false =>
      rw [hb] at h
      exact List.mem_cons_of_mem _ (ih h)
theorem zlk_mem {α : Type} {t : List (List (Nat × α))} {o i : Nat} {v : α} (h : zlk t o i = some v) : ∃ r, t[o]? = some r ∧ (i, v) ∈ r := by
  unfold zlk at h
  cases ht : t[o]? with
  | none => rw [ht] at h; simp at h
  | some r => rw [ht] at h; exact ⟨r, rfl, zas2_mem h⟩
end
