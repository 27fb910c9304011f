section
-- ===== PART A: goes FIRST, ahead of the names: the tables' words, and 'selects' of the private methods out of them =====
/-- a private method of a class that the tables say can be made, by its rows of tables_1 -/
def lw_okq (q : MethodName × Nat) : Prop := (q.1.cls ≠ "java/lang/invoke/MethodHandle" ∧ q.1.cls ≠ "java/lang/invoke/VarHandle") ∧ Cond.instantiable q.1.cls q.2 ∈ tables_1 ∧ Cond.privateMethod q.1 ∈ tables_1 ∧ Cond.instanceMethod q.1 ∈ tables_1
theorem lw_p0 : lw_okq (⟨"LacedHouse", "found", "(I)I"⟩, 7) := ⟨⟨by decide +kernel, by decide +kernel⟩, List.mem_of_getElem? (i := 16) (by decide +kernel), List.mem_of_getElem? (i := 177) (by decide +kernel), List.mem_of_getElem? (i := 178) (by decide +kernel)⟩
theorem lw_p1 : lw_okq (⟨"LacedHouse", "isGuest", "(I)Z"⟩, 7) := ⟨⟨by decide +kernel, by decide +kernel⟩, List.mem_of_getElem? (i := 16) (by decide +kernel), List.mem_of_getElem? (i := 234) (by decide +kernel), List.mem_of_getElem? (i := 235) (by decide +kernel)⟩
theorem lw_p2 : lw_okq (⟨"LacedHouse$House", "walk", "(II)V"⟩, 15) := ⟨⟨by decide +kernel, by decide +kernel⟩, List.mem_of_getElem? (i := 24) (by decide +kernel), List.mem_of_getElem? (i := 298) (by decide +kernel), List.mem_of_getElem? (i := 299) (by decide +kernel)⟩
theorem lw_p3 : lw_okq (⟨"LacedHouse$House", "pull", "(I)V"⟩, 15) := ⟨⟨by decide +kernel, by decide +kernel⟩, List.mem_of_getElem? (i := 24) (by decide +kernel), List.mem_of_getElem? (i := 306) (by decide +kernel), List.mem_of_getElem? (i := 307) (by decide +kernel)⟩
theorem lw_p4 : lw_okq (⟨"LacedHouse", "startTrial", "()V"⟩, 7) := ⟨⟨by decide +kernel, by decide +kernel⟩, List.mem_of_getElem? (i := 16) (by decide +kernel), List.mem_of_getElem? (i := 338) (by decide +kernel), List.mem_of_getElem? (i := 339) (by decide +kernel)⟩
theorem lw_p5 : lw_okq (⟨"LacedHouse", "lackOfTold", "(II)I"⟩, 7) := ⟨⟨by decide +kernel, by decide +kernel⟩, List.mem_of_getElem? (i := 16) (by decide +kernel), List.mem_of_getElem? (i := 409) (by decide +kernel), List.mem_of_getElem? (i := 410) (by decide +kernel)⟩
theorem lw_p6 : lw_okq (⟨"LacedHouse", "lackOfSheet", "(I)I"⟩, 7) := ⟨⟨by decide +kernel, by decide +kernel⟩, List.mem_of_getElem? (i := 16) (by decide +kernel), List.mem_of_getElem? (i := 413) (by decide +kernel), List.mem_of_getElem? (i := 414) (by decide +kernel)⟩
theorem lw_p7 : lw_okq (⟨"LacedHouse", "trialGoesAsTold", "(II)Z"⟩, 7) := ⟨⟨by decide +kernel, by decide +kernel⟩, List.mem_of_getElem? (i := 16) (by decide +kernel), List.mem_of_getElem? (i := 425) (by decide +kernel), List.mem_of_getElem? (i := 426) (by decide +kernel)⟩
theorem lw_p8 : lw_okq (⟨"LacedHouse$House", "draw", "()I"⟩, 15) := ⟨⟨by decide +kernel, by decide +kernel⟩, List.mem_of_getElem? (i := 24) (by decide +kernel), List.mem_of_getElem? (i := 441) (by decide +kernel), List.mem_of_getElem? (i := 442) (by decide +kernel)⟩
theorem lw_p9 : lw_okq (⟨"LacedHouse$Tape", "next", "()V"⟩, 6) := ⟨⟨by decide +kernel, by decide +kernel⟩, List.mem_of_getElem? (i := 120) (by decide +kernel), List.mem_of_getElem? (i := 487) (by decide +kernel), List.mem_of_getElem? (i := 488) (by decide +kernel)⟩
theorem lw_p10 : lw_okq (⟨"LacedHouse$Tape", "readItem", "(LLacedHouse$House;)Z"⟩, 6) := ⟨⟨by decide +kernel, by decide +kernel⟩, List.mem_of_getElem? (i := 120) (by decide +kernel), List.mem_of_getElem? (i := 498) (by decide +kernel), List.mem_of_getElem? (i := 499) (by decide +kernel)⟩
theorem lw_p11 : lw_okq (⟨"LacedHouse$Tape", "kindTold", "()I"⟩, 6) := ⟨⟨by decide +kernel, by decide +kernel⟩, List.mem_of_getElem? (i := 120) (by decide +kernel), List.mem_of_getElem? (i := 502) (by decide +kernel), List.mem_of_getElem? (i := 503) (by decide +kernel)⟩
theorem lw_p12 : lw_okq (⟨"LacedHouse$Tape", "isWord", "(Ljava/lang/String;)Z"⟩, 6) := ⟨⟨by decide +kernel, by decide +kernel⟩, List.mem_of_getElem? (i := 120) (by decide +kernel), List.mem_of_getElem? (i := 516) (by decide +kernel), List.mem_of_getElem? (i := 517) (by decide +kernel)⟩
theorem lw_p13 : lw_okq (⟨"LacedHouse$Tape", "readGuest", "(LLacedHouse$House;I)Z"⟩, 6) := ⟨⟨by decide +kernel, by decide +kernel⟩, List.mem_of_getElem? (i := 120) (by decide +kernel), List.mem_of_getElem? (i := 568) (by decide +kernel), List.mem_of_getElem? (i := 569) (by decide +kernel)⟩
theorem lw_p14 : lw_okq (⟨"LacedHouse$Tape", "takeNumber", "(II)Z"⟩, 6) := ⟨⟨by decide +kernel, by decide +kernel⟩, List.mem_of_getElem? (i := 120) (by decide +kernel), List.mem_of_getElem? (i := 574) (by decide +kernel), List.mem_of_getElem? (i := 575) (by decide +kernel)⟩
theorem lw_p15 : lw_okq (⟨"LacedHouse$Tape", "readTrait", "(Ljava/lang/String;[IIII)Z"⟩, 6) := ⟨⟨by decide +kernel, by decide +kernel⟩, List.mem_of_getElem? (i := 120) (by decide +kernel), List.mem_of_getElem? (i := 580) (by decide +kernel), List.mem_of_getElem? (i := 581) (by decide +kernel)⟩
def lw_privs_1 : List (MethodName × Nat) := [(⟨"LacedHouse", "found", "(I)I"⟩, 7), (⟨"LacedHouse", "isGuest", "(I)Z"⟩, 7), (⟨"LacedHouse$House", "walk", "(II)V"⟩, 15), (⟨"LacedHouse$House", "pull", "(I)V"⟩, 15), (⟨"LacedHouse", "startTrial", "()V"⟩, 7), (⟨"LacedHouse", "lackOfTold", "(II)I"⟩, 7), (⟨"LacedHouse", "lackOfSheet", "(I)I"⟩, 7), (⟨"LacedHouse", "trialGoesAsTold", "(II)Z"⟩, 7), (⟨"LacedHouse$House", "draw", "()I"⟩, 15), (⟨"LacedHouse$Tape", "next", "()V"⟩, 6), (⟨"LacedHouse$Tape", "readItem", "(LLacedHouse$House;)Z"⟩, 6), (⟨"LacedHouse$Tape", "kindTold", "()I"⟩, 6), (⟨"LacedHouse$Tape", "isWord", "(Ljava/lang/String;)Z"⟩, 6), (⟨"LacedHouse$Tape", "readGuest", "(LLacedHouse$House;I)Z"⟩, 6), (⟨"LacedHouse$Tape", "takeNumber", "(II)Z"⟩, 6), (⟨"LacedHouse$Tape", "readTrait", "(Ljava/lang/String;[IIII)Z"⟩, 6)]
theorem lw_r1 : ∀ q ∈ lw_privs_1, lw_okq q := List.forall_mem_cons.mpr ⟨lw_p0, List.forall_mem_cons.mpr ⟨lw_p1, List.forall_mem_cons.mpr ⟨lw_p2, List.forall_mem_cons.mpr ⟨lw_p3, List.forall_mem_cons.mpr ⟨lw_p4, List.forall_mem_cons.mpr ⟨lw_p5, List.forall_mem_cons.mpr ⟨lw_p6, List.forall_mem_cons.mpr ⟨lw_p7, List.forall_mem_cons.mpr ⟨lw_p8, List.forall_mem_cons.mpr ⟨lw_p9, List.forall_mem_cons.mpr ⟨lw_p10, List.forall_mem_cons.mpr ⟨lw_p11, List.forall_mem_cons.mpr ⟨lw_p12, List.forall_mem_cons.mpr ⟨lw_p13, List.forall_mem_cons.mpr ⟨lw_p14, List.forall_mem_cons.mpr ⟨lw_p15, fun _ h => absurd h List.not_mem_nil⟩⟩⟩⟩⟩⟩⟩⟩⟩⟩⟩⟩⟩⟩⟩⟩
theorem lw_p16 : lw_okq (⟨"LacedHouse$Tape", "readPair", "([III)Z"⟩, 6) := ⟨⟨by decide +kernel, by decide +kernel⟩, List.mem_of_getElem? (i := 120) (by decide +kernel), List.mem_of_getElem? (i := 586) (by decide +kernel), List.mem_of_getElem? (i := 587) (by decide +kernel)⟩
theorem lw_p17 : lw_okq (⟨"LacedHouseModel", "become", "(II)I"⟩, 20) := ⟨⟨by decide +kernel, by decide +kernel⟩, List.mem_of_getElem? (i := 676) (by decide +kernel), List.mem_of_getElem? (i := 762) (by decide +kernel), List.mem_of_getElem? (i := 763) (by decide +kernel)⟩
theorem lw_p18 : lw_okq (⟨"LacedHouseModel", "finding", "(I)I"⟩, 20) := ⟨⟨by decide +kernel, by decide +kernel⟩, List.mem_of_getElem? (i := 676) (by decide +kernel), List.mem_of_getElem? (i := 767) (by decide +kernel), List.mem_of_getElem? (i := 768) (by decide +kernel)⟩
theorem lw_p19 : lw_okq (⟨"LacedHouseModel", "wideAt", "(II)I"⟩, 20) := ⟨⟨by decide +kernel, by decide +kernel⟩, List.mem_of_getElem? (i := 676) (by decide +kernel), List.mem_of_getElem? (i := 799) (by decide +kernel), List.mem_of_getElem? (i := 800) (by decide +kernel)⟩
theorem lw_p20 : lw_okq (⟨"LacedHouseModel", "comesIn", "(II)I"⟩, 20) := ⟨⟨by decide +kernel, by decide +kernel⟩, List.mem_of_getElem? (i := 676) (by decide +kernel), List.mem_of_getElem? (i := 812) (by decide +kernel), List.mem_of_getElem? (i := 813) (by decide +kernel)⟩
theorem lw_p21 : lw_okq (⟨"LacedHouseModel", "isGuest", "(I)Z"⟩, 20) := ⟨⟨by decide +kernel, by decide +kernel⟩, List.mem_of_getElem? (i := 676) (by decide +kernel), List.mem_of_getElem? (i := 823) (by decide +kernel), List.mem_of_getElem? (i := 824) (by decide +kernel)⟩
theorem lw_p22 : lw_okq (⟨"LacedHouseModel", "told", "(II)I"⟩, 20) := ⟨⟨by decide +kernel, by decide +kernel⟩, List.mem_of_getElem? (i := 676) (by decide +kernel), List.mem_of_getElem? (i := 827) (by decide +kernel), List.mem_of_getElem? (i := 828) (by decide +kernel)⟩
theorem lw_p23 : lw_okq (⟨"LacedHouseModel", "needs", "(I)I"⟩, 20) := ⟨⟨by decide +kernel, by decide +kernel⟩, List.mem_of_getElem? (i := 676) (by decide +kernel), List.mem_of_getElem? (i := 831) (by decide +kernel), List.mem_of_getElem? (i := 832) (by decide +kernel)⟩
theorem lw_p24 : lw_okq (⟨"LacedHouseModel", "guestIs", "(II)I"⟩, 20) := ⟨⟨by decide +kernel, by decide +kernel⟩, List.mem_of_getElem? (i := 676) (by decide +kernel), List.mem_of_getElem? (i := 835) (by decide +kernel), List.mem_of_getElem? (i := 836) (by decide +kernel)⟩
theorem lw_p25 : lw_okq (⟨"LacedHouseModel", "steps", "(I)I"⟩, 20) := ⟨⟨by decide +kernel, by decide +kernel⟩, List.mem_of_getElem? (i := 676) (by decide +kernel), List.mem_of_getElem? (i := 839) (by decide +kernel), List.mem_of_getElem? (i := 840) (by decide +kernel)⟩
theorem lw_p26 : lw_okq (⟨"LacedHouseModel", "laughs", "(I)I"⟩, 20) := ⟨⟨by decide +kernel, by decide +kernel⟩, List.mem_of_getElem? (i := 676) (by decide +kernel), List.mem_of_getElem? (i := 843) (by decide +kernel), List.mem_of_getElem? (i := 844) (by decide +kernel)⟩
theorem lw_p27 : lw_okq (⟨"LacedHouseModel", "laces", "(I)I"⟩, 20) := ⟨⟨by decide +kernel, by decide +kernel⟩, List.mem_of_getElem? (i := 676) (by decide +kernel), List.mem_of_getElem? (i := 847) (by decide +kernel), List.mem_of_getElem? (i := 848) (by decide +kernel)⟩
theorem lw_p28 : lw_okq (⟨"LacedHouseModel", "reachOf", "(II)I"⟩, 20) := ⟨⟨by decide +kernel, by decide +kernel⟩, List.mem_of_getElem? (i := 676) (by decide +kernel), List.mem_of_getElem? (i := 862) (by decide +kernel), List.mem_of_getElem? (i := 863) (by decide +kernel)⟩
theorem lw_p29 : lw_okq (⟨"LacedHouseModel", "hoursGo", "(I)V"⟩, 20) := ⟨⟨by decide +kernel, by decide +kernel⟩, List.mem_of_getElem? (i := 676) (by decide +kernel), List.mem_of_getElem? (i := 872) (by decide +kernel), List.mem_of_getElem? (i := 873) (by decide +kernel)⟩
theorem lw_p30 : lw_okq (⟨"LacedHouseModel", "hour", "()V"⟩, 20) := ⟨⟨by decide +kernel, by decide +kernel⟩, List.mem_of_getElem? (i := 676) (by decide +kernel), List.mem_of_getElem? (i := 876) (by decide +kernel), List.mem_of_getElem? (i := 877) (by decide +kernel)⟩
theorem lw_p31 : lw_okq (⟨"LacedHouseModel", "measureNow", "()I"⟩, 20) := ⟨⟨by decide +kernel, by decide +kernel⟩, List.mem_of_getElem? (i := 676) (by decide +kernel), List.mem_of_getElem? (i := 880) (by decide +kernel), List.mem_of_getElem? (i := 881) (by decide +kernel)⟩
def lw_privs_2 : List (MethodName × Nat) := [(⟨"LacedHouse$Tape", "readPair", "([III)Z"⟩, 6), (⟨"LacedHouseModel", "become", "(II)I"⟩, 20), (⟨"LacedHouseModel", "finding", "(I)I"⟩, 20), (⟨"LacedHouseModel", "wideAt", "(II)I"⟩, 20), (⟨"LacedHouseModel", "comesIn", "(II)I"⟩, 20), (⟨"LacedHouseModel", "isGuest", "(I)Z"⟩, 20), (⟨"LacedHouseModel", "told", "(II)I"⟩, 20), (⟨"LacedHouseModel", "needs", "(I)I"⟩, 20), (⟨"LacedHouseModel", "guestIs", "(II)I"⟩, 20), (⟨"LacedHouseModel", "steps", "(I)I"⟩, 20), (⟨"LacedHouseModel", "laughs", "(I)I"⟩, 20), (⟨"LacedHouseModel", "laces", "(I)I"⟩, 20), (⟨"LacedHouseModel", "reachOf", "(II)I"⟩, 20), (⟨"LacedHouseModel", "hoursGo", "(I)V"⟩, 20), (⟨"LacedHouseModel", "hour", "()V"⟩, 20), (⟨"LacedHouseModel", "measureNow", "()I"⟩, 20)]
theorem lw_r2 : ∀ q ∈ lw_privs_2, lw_okq q := List.forall_mem_cons.mpr ⟨lw_p16, List.forall_mem_cons.mpr ⟨lw_p17, List.forall_mem_cons.mpr ⟨lw_p18, List.forall_mem_cons.mpr ⟨lw_p19, List.forall_mem_cons.mpr ⟨lw_p20, List.forall_mem_cons.mpr ⟨lw_p21, List.forall_mem_cons.mpr ⟨lw_p22, List.forall_mem_cons.mpr ⟨lw_p23, List.forall_mem_cons.mpr ⟨lw_p24, List.forall_mem_cons.mpr ⟨lw_p25, List.forall_mem_cons.mpr ⟨lw_p26, List.forall_mem_cons.mpr ⟨lw_p27, List.forall_mem_cons.mpr ⟨lw_p28, List.forall_mem_cons.mpr ⟨lw_p29, List.forall_mem_cons.mpr ⟨lw_p30, List.forall_mem_cons.mpr ⟨lw_p31, fun _ h => absurd h List.not_mem_nil⟩⟩⟩⟩⟩⟩⟩⟩⟩⟩⟩⟩⟩⟩⟩⟩
theorem lw_p32 : lw_okq (⟨"LacedHouseModel", "placeNow", "()I"⟩, 20) := ⟨⟨by decide +kernel, by decide +kernel⟩, List.mem_of_getElem? (i := 676) (by decide +kernel), List.mem_of_getElem? (i := 884) (by decide +kernel), List.mem_of_getElem? (i := 885) (by decide +kernel)⟩
theorem lw_p33 : lw_okq (⟨"LacedHouseModel", "isIn", "(I)Z"⟩, 20) := ⟨⟨by decide +kernel, by decide +kernel⟩, List.mem_of_getElem? (i := 676) (by decide +kernel), List.mem_of_getElem? (i := 888) (by decide +kernel), List.mem_of_getElem? (i := 889) (by decide +kernel)⟩
theorem lw_p34 : lw_okq (⟨"LacedHouseModel", "goes", "(II)V"⟩, 20) := ⟨⟨by decide +kernel, by decide +kernel⟩, List.mem_of_getElem? (i := 676) (by decide +kernel), List.mem_of_getElem? (i := 892) (by decide +kernel), List.mem_of_getElem? (i := 893) (by decide +kernel)⟩
theorem lw_p35 : lw_okq (⟨"LacedHouseModel", "strains", "(I)V"⟩, 20) := ⟨⟨by decide +kernel, by decide +kernel⟩, List.mem_of_getElem? (i := 676) (by decide +kernel), List.mem_of_getElem? (i := 897) (by decide +kernel), List.mem_of_getElem? (i := 898) (by decide +kernel)⟩
theorem lw_p36 : lw_okq (⟨"LacedHouseModel", "stuckOnes", "()I"⟩, 20) := ⟨⟨by decide +kernel, by decide +kernel⟩, List.mem_of_getElem? (i := 676) (by decide +kernel), List.mem_of_getElem? (i := 905) (by decide +kernel), List.mem_of_getElem? (i := 906) (by decide +kernel)⟩
theorem lw_p37 : lw_okq (⟨"LacedHouseModel", "arrived", "()I"⟩, 20) := ⟨⟨by decide +kernel, by decide +kernel⟩, List.mem_of_getElem? (i := 676) (by decide +kernel), List.mem_of_getElem? (i := 909) (by decide +kernel), List.mem_of_getElem? (i := 910) (by decide +kernel)⟩
theorem lw_p38 : lw_okq (⟨"LacedHouseModel", "inTheHall", "()I"⟩, 20) := ⟨⟨by decide +kernel, by decide +kernel⟩, List.mem_of_getElem? (i := 676) (by decide +kernel), List.mem_of_getElem? (i := 913) (by decide +kernel), List.mem_of_getElem? (i := 914) (by decide +kernel)⟩
theorem lw_p39 : lw_okq (⟨"LacedHouseModel", "shutCells", "()I"⟩, 20) := ⟨⟨by decide +kernel, by decide +kernel⟩, List.mem_of_getElem? (i := 676) (by decide +kernel), List.mem_of_getElem? (i := 917) (by decide +kernel), List.mem_of_getElem? (i := 918) (by decide +kernel)⟩
theorem lw_p40 : lw_okq (⟨"LacedHouseModel", "putBack", "(I)I"⟩, 20) := ⟨⟨by decide +kernel, by decide +kernel⟩, List.mem_of_getElem? (i := 676) (by decide +kernel), List.mem_of_getElem? (i := 928) (by decide +kernel), List.mem_of_getElem? (i := 929) (by decide +kernel)⟩
theorem lw_p41 : lw_okq (⟨"LacedHouseModel", "behind", "(II)I"⟩, 20) := ⟨⟨by decide +kernel, by decide +kernel⟩, List.mem_of_getElem? (i := 676) (by decide +kernel), List.mem_of_getElem? (i := 936) (by decide +kernel), List.mem_of_getElem? (i := 937) (by decide +kernel)⟩
theorem lw_p42 : lw_okq (⟨"LacedHouseModel", "hoursTo", "(III)I"⟩, 20) := ⟨⟨by decide +kernel, by decide +kernel⟩, List.mem_of_getElem? (i := 676) (by decide +kernel), List.mem_of_getElem? (i := 944) (by decide +kernel), List.mem_of_getElem? (i := 945) (by decide +kernel)⟩
theorem lw_p43 : lw_okq (⟨"LacedHouseModel", "orNone", "(I)I"⟩, 20) := ⟨⟨by decide +kernel, by decide +kernel⟩, List.mem_of_getElem? (i := 676) (by decide +kernel), List.mem_of_getElem? (i := 948) (by decide +kernel), List.mem_of_getElem? (i := 949) (by decide +kernel)⟩
theorem lw_p44 : lw_okq (⟨"LacedHouseModel", "holds", "(II)Z"⟩, 20) := ⟨⟨by decide +kernel, by decide +kernel⟩, List.mem_of_getElem? (i := 676) (by decide +kernel), List.mem_of_getElem? (i := 987) (by decide +kernel), List.mem_of_getElem? (i := 988) (by decide +kernel)⟩
theorem lw_p45 : lw_okq (⟨"LacedHouseModel", "lacks", "(IZ)I"⟩, 20) := ⟨⟨by decide +kernel, by decide +kernel⟩, List.mem_of_getElem? (i := 676) (by decide +kernel), List.mem_of_getElem? (i := 995) (by decide +kernel), List.mem_of_getElem? (i := 996) (by decide +kernel)⟩
theorem lw_p46 : lw_okq (⟨"LacedHouseModel", "isSo", "(II)Z"⟩, 20) := ⟨⟨by decide +kernel, by decide +kernel⟩, List.mem_of_getElem? (i := 676) (by decide +kernel), List.mem_of_getElem? (i := 1003) (by decide +kernel), List.mem_of_getElem? (i := 1004) (by decide +kernel)⟩
theorem lw_p47 : lw_okq (⟨"LacedHouseModel", "drawn", "()I"⟩, 20) := ⟨⟨by decide +kernel, by decide +kernel⟩, List.mem_of_getElem? (i := 676) (by decide +kernel), List.mem_of_getElem? (i := 1015) (by decide +kernel), List.mem_of_getElem? (i := 1016) (by decide +kernel)⟩
def lw_privs_3 : List (MethodName × Nat) := [(⟨"LacedHouseModel", "placeNow", "()I"⟩, 20), (⟨"LacedHouseModel", "isIn", "(I)Z"⟩, 20), (⟨"LacedHouseModel", "goes", "(II)V"⟩, 20), (⟨"LacedHouseModel", "strains", "(I)V"⟩, 20), (⟨"LacedHouseModel", "stuckOnes", "()I"⟩, 20), (⟨"LacedHouseModel", "arrived", "()I"⟩, 20), (⟨"LacedHouseModel", "inTheHall", "()I"⟩, 20), (⟨"LacedHouseModel", "shutCells", "()I"⟩, 20), (⟨"LacedHouseModel", "putBack", "(I)I"⟩, 20), (⟨"LacedHouseModel", "behind", "(II)I"⟩, 20), (⟨"LacedHouseModel", "hoursTo", "(III)I"⟩, 20), (⟨"LacedHouseModel", "orNone", "(I)I"⟩, 20), (⟨"LacedHouseModel", "holds", "(II)Z"⟩, 20), (⟨"LacedHouseModel", "lacks", "(IZ)I"⟩, 20), (⟨"LacedHouseModel", "isSo", "(II)Z"⟩, 20), (⟨"LacedHouseModel", "drawn", "()I"⟩, 20)]
theorem lw_r3 : ∀ q ∈ lw_privs_3, lw_okq q := List.forall_mem_cons.mpr ⟨lw_p32, List.forall_mem_cons.mpr ⟨lw_p33, List.forall_mem_cons.mpr ⟨lw_p34, List.forall_mem_cons.mpr ⟨lw_p35, List.forall_mem_cons.mpr ⟨lw_p36, List.forall_mem_cons.mpr ⟨lw_p37, List.forall_mem_cons.mpr ⟨lw_p38, List.forall_mem_cons.mpr ⟨lw_p39, List.forall_mem_cons.mpr ⟨lw_p40, List.forall_mem_cons.mpr ⟨lw_p41, List.forall_mem_cons.mpr ⟨lw_p42, List.forall_mem_cons.mpr ⟨lw_p43, List.forall_mem_cons.mpr ⟨lw_p44, List.forall_mem_cons.mpr ⟨lw_p45, List.forall_mem_cons.mpr ⟨lw_p46, List.forall_mem_cons.mpr ⟨lw_p47, fun _ h => absurd h List.not_mem_nil⟩⟩⟩⟩⟩⟩⟩⟩⟩⟩⟩⟩⟩⟩⟩⟩
theorem lw_p48 : lw_okq (⟨"LacedHouseModel", "token", "()V"⟩, 20) := ⟨⟨by decide +kernel, by decide +kernel⟩, List.mem_of_getElem? (i := 676) (by decide +kernel), List.mem_of_getElem? (i := 1040) (by decide +kernel), List.mem_of_getElem? (i := 1041) (by decide +kernel)⟩
theorem lw_p49 : lw_okq (⟨"LacedHouseModel", "byteAt", "(I)I"⟩, 20) := ⟨⟨by decide +kernel, by decide +kernel⟩, List.mem_of_getElem? (i := 676) (by decide +kernel), List.mem_of_getElem? (i := 1044) (by decide +kernel), List.mem_of_getElem? (i := 1045) (by decide +kernel)⟩
theorem lw_p50 : lw_okq (⟨"LacedHouseModel", "readItem", "()V"⟩, 20) := ⟨⟨by decide +kernel, by decide +kernel⟩, List.mem_of_getElem? (i := 676) (by decide +kernel), List.mem_of_getElem? (i := 1048) (by decide +kernel), List.mem_of_getElem? (i := 1049) (by decide +kernel)⟩
theorem lw_p51 : lw_okq (⟨"LacedHouseModel", "isWord", "(Ljava/lang/String;)Z"⟩, 20) := ⟨⟨by decide +kernel, by decide +kernel⟩, List.mem_of_getElem? (i := 676) (by decide +kernel), List.mem_of_getElem? (i := 1052) (by decide +kernel), List.mem_of_getElem? (i := 1053) (by decide +kernel)⟩
theorem lw_p52 : lw_okq (⟨"LacedHouseModel", "readGuest", "(I)V"⟩, 20) := ⟨⟨by decide +kernel, by decide +kernel⟩, List.mem_of_getElem? (i := 676) (by decide +kernel), List.mem_of_getElem? (i := 1058) (by decide +kernel), List.mem_of_getElem? (i := 1059) (by decide +kernel)⟩
theorem lw_p53 : lw_okq (⟨"LacedHouseModel", "must", "(Z)V"⟩, 20) := ⟨⟨by decide +kernel, by decide +kernel⟩, List.mem_of_getElem? (i := 676) (by decide +kernel), List.mem_of_getElem? (i := 1062) (by decide +kernel), List.mem_of_getElem? (i := 1063) (by decide +kernel)⟩
theorem lw_p54 : lw_okq (⟨"LacedHouseModel", "takesWord", "(Ljava/lang/String;)Z"⟩, 20) := ⟨⟨by decide +kernel, by decide +kernel⟩, List.mem_of_getElem? (i := 676) (by decide +kernel), List.mem_of_getElem? (i := 1067) (by decide +kernel), List.mem_of_getElem? (i := 1068) (by decide +kernel)⟩
theorem lw_p55 : lw_okq (⟨"LacedHouseModel", "number", "(II)I"⟩, 20) := ⟨⟨by decide +kernel, by decide +kernel⟩, List.mem_of_getElem? (i := 676) (by decide +kernel), List.mem_of_getElem? (i := 1071) (by decide +kernel), List.mem_of_getElem? (i := 1072) (by decide +kernel)⟩
theorem lw_p56 : lw_okq (⟨"LacedHouseModel", "addItem", "(IIII)V"⟩, 20) := ⟨⟨by decide +kernel, by decide +kernel⟩, List.mem_of_getElem? (i := 676) (by decide +kernel), List.mem_of_getElem? (i := 1077) (by decide +kernel), List.mem_of_getElem? (i := 1078) (by decide +kernel)⟩
theorem lw_p57 : lw_okq (⟨"LacedHouseModel", "isToldSo", "(I)V"⟩, 20) := ⟨⟨by decide +kernel, by decide +kernel⟩, List.mem_of_getElem? (i := 676) (by decide +kernel), List.mem_of_getElem? (i := 1084) (by decide +kernel), List.mem_of_getElem? (i := 1085) (by decide +kernel)⟩
def lw_privs_4 : List (MethodName × Nat) := [(⟨"LacedHouseModel", "token", "()V"⟩, 20), (⟨"LacedHouseModel", "byteAt", "(I)I"⟩, 20), (⟨"LacedHouseModel", "readItem", "()V"⟩, 20), (⟨"LacedHouseModel", "isWord", "(Ljava/lang/String;)Z"⟩, 20), (⟨"LacedHouseModel", "readGuest", "(I)V"⟩, 20), (⟨"LacedHouseModel", "must", "(Z)V"⟩, 20), (⟨"LacedHouseModel", "takesWord", "(Ljava/lang/String;)Z"⟩, 20), (⟨"LacedHouseModel", "number", "(II)I"⟩, 20), (⟨"LacedHouseModel", "addItem", "(IIII)V"⟩, 20), (⟨"LacedHouseModel", "isToldSo", "(I)V"⟩, 20)]
theorem lw_r4 : ∀ q ∈ lw_privs_4, lw_okq q := List.forall_mem_cons.mpr ⟨lw_p48, List.forall_mem_cons.mpr ⟨lw_p49, List.forall_mem_cons.mpr ⟨lw_p50, List.forall_mem_cons.mpr ⟨lw_p51, List.forall_mem_cons.mpr ⟨lw_p52, List.forall_mem_cons.mpr ⟨lw_p53, List.forall_mem_cons.mpr ⟨lw_p54, List.forall_mem_cons.mpr ⟨lw_p55, List.forall_mem_cons.mpr ⟨lw_p56, List.forall_mem_cons.mpr ⟨lw_p57, fun _ h => absurd h List.not_mem_nil⟩⟩⟩⟩⟩⟩⟩⟩⟩⟩
def lw_privs : List (MethodName × Nat) := lw_privs_1 ++ (lw_privs_2 ++ (lw_privs_3 ++ (lw_privs_4)))
def lw_tbl : List Cond := k2_sels lw_privs ++ tables_1
theorem lw_privs_ok : ∀ q ∈ lw_privs, lw_okq q := by
  show ∀ q ∈ lw_privs_1 ++ (lw_privs_2 ++ (lw_privs_3 ++ (lw_privs_4))), lw_okq q
  exact List.forall_mem_append.mpr ⟨lw_r1, List.forall_mem_append.mpr ⟨lw_r2, List.forall_mem_append.mpr ⟨lw_r3, lw_r4⟩⟩⟩
end
section
def RX0 : String := "LacedHouse$House"
def TX0 : u_T := fun k => match k with
  | 0 => ("LacedHouse$House", "bases", "[I", true)
  | 1 => ("LacedHouse$House", "list", "[I", true)
  | 2 => ("LacedHouse$House", "cord", "I", false)
  | 3 => ("LacedHouse$House", "strain", "I", false)
  | 4 => ("LacedHouse$House", "snapped", "I", false)
  | 5 => ("LacedHouse$House", "hour", "I", false)
  | 6 => ("LacedHouse$House", "count", "I", false)
  | 7 => ("LacedHouse$House", "kind", "[I", true)
  | 8 => ("LacedHouse$House", "at", "[I", true)
  | 9 => ("LacedHouse$House", "size", "[I", true)
  | 10 => ("LacedHouse$House", "aim", "[I", true)
  | 11 => ("LacedHouse$House", "stuck", "[I", true)
  | 12 => ("LacedHouse$House", "home", "[I", true)
  | 13 => ("LacedHouse$House", "z", "I", false)
  | _ => ("LacedHouse$House", "spots", "[I", true)
def tyX0 : Nat → FieldType := fun k => match k with
  | 0 => .array .int
  | 1 => .array .int
  | 2 => .int
  | 3 => .int
  | 4 => .int
  | 5 => .int
  | 6 => .int
  | 7 => .array .int
  | 8 => .array .int
  | 9 => .array .int
  | 10 => .array .int
  | 11 => .array .int
  | 12 => .array .int
  | 13 => .int
  | _ => .array .int
theorem nmX0 : ∀ a, a < 15 → ∀ b, b < 15 → a ≠ b → (TX0 a).2.1 ≠ (TX0 b).2.1 := by decide +kernel
theorem tyX0_ok : ∀ k, k < 15 → parseFieldDescriptor (TX0 k).2.2.1 = some (tyX0 k) := by decide +kernel
abbrev cX0_init : ByteArray := prog_2_method_1_code
def yX0_init : MethodName := ⟨RX0, "<init>", "()V"⟩
abbrev cX0_become : ByteArray := prog_2_method_2_code
def yX0_become : MethodName := ⟨RX0, "become", "(LLacedHouse$House;)V"⟩
abbrev cX0_isFull : ByteArray := prog_2_method_3_code
def yX0_isFull : MethodName := ⟨RX0, "isFull", "()Z"⟩
abbrev cX0_add : ByteArray := prog_2_method_4_code
def yX0_add : MethodName := ⟨RX0, "add", "(II)I"⟩
abbrev cX0_sendHome : ByteArray := prog_2_method_5_code
def yX0_sendHome : MethodName := ⟨RX0, "sendHome", "(I)V"⟩
abbrev cX0_trait : ByteArray := prog_2_method_6_code
def yX0_trait : MethodName := ⟨RX0, "trait", "(I)[I"⟩
abbrev cX0_needs : ByteArray := prog_2_method_7_code
def yX0_needs : MethodName := ⟨RX0, "needs", "(I)I"⟩
abbrev cX0_placeNow : ByteArray := prog_2_method_8_code
def yX0_placeNow : MethodName := ⟨RX0, "placeNow", "()I"⟩
abbrev cX0_measureNow : ByteArray := prog_2_method_9_code
def yX0_measureNow : MethodName := ⟨RX0, "measureNow", "()I"⟩
abbrev cX0_width : ByteArray := prog_2_method_10_code
def yX0_width : MethodName := ⟨RX0, "width", "(II)I"⟩
abbrev cX0_reachable : ByteArray := prog_2_method_11_code
def yX0_reachable : MethodName := ⟨RX0, "reachable", "(II)I"⟩
abbrev cX0_canReach : ByteArray := prog_2_method_12_code
def yX0_canReach : MethodName := ⟨RX0, "canReach", "(III)Z"⟩
abbrev cX0_measuresToAim : ByteArray := prog_2_method_13_code
def yX0_measuresToAim : MethodName := ⟨RX0, "measuresToAim", "(I)I"⟩
abbrev cX0_passHours : ByteArray := prog_2_method_14_code
def yX0_passHours : MethodName := ⟨RX0, "passHours", "(I)V"⟩
abbrev cX0_holdsFor : ByteArray := prog_2_method_15_code
def yX0_holdsFor : MethodName := ⟨RX0, "holdsFor", "(I)Z"⟩
abbrev cX0_passHour : ByteArray := prog_2_method_16_code
def yX0_passHour : MethodName := ⟨RX0, "passHour", "()V"⟩
abbrev cX0_walk : ByteArray := prog_2_method_17_code
def yX0_walk : MethodName := ⟨RX0, "walk", "(II)V"⟩
abbrev cX0_pull : ByteArray := prog_2_method_18_code
def yX0_pull : MethodName := ⟨RX0, "pull", "(I)V"⟩
abbrev cX0_draw : ByteArray := prog_2_method_19_code
def yX0_draw : MethodName := ⟨RX0, "draw", "()I"⟩
abbrev cX0_passPartyHour : ByteArray := prog_2_method_20_code
def yX0_passPartyHour : MethodName := ⟨RX0, "passPartyHour", "()V"⟩
abbrev cX0_thoseStuck : ByteArray := prog_2_method_21_code
def yX0_thoseStuck : MethodName := ⟨RX0, "thoseStuck", "()I"⟩
abbrev cX0_thoseAtAim : ByteArray := prog_2_method_22_code
def yX0_thoseAtAim : MethodName := ⟨RX0, "thoseAtAim", "()I"⟩
abbrev cX0_thoseInHall : ByteArray := prog_2_method_23_code
def yX0_thoseInHall : MethodName := ⟨RX0, "thoseInHall", "()I"⟩
abbrev cX0_closedCells : ByteArray := prog_2_method_24_code
def yX0_closedCells : MethodName := ⟨RX0, "closedCells", "()I"⟩
abbrev cX0_howManyHome : ByteArray := prog_2_method_25_code
def yX0_howManyHome : MethodName := ⟨RX0, "howManyHome", "()I"⟩
abbrev cX0_howManyHeld : ByteArray := prog_2_method_26_code
def yX0_howManyHeld : MethodName := ⟨RX0, "howManyHeld", "()I"⟩
def RX1 : String := "LacedHouse$Kinds"
def TX1 : u_T := fun k => match k with
  | _ => ("", "", "", false)
def tyX1 : Nat → FieldType := fun k => match k with
  | _ => .int
theorem nmX1 : ∀ a, a < 0 → ∀ b, b < 0 → a ≠ b → (TX1 a).2.1 ≠ (TX1 b).2.1 := by decide +kernel
theorem tyX1_ok : ∀ k, k < 0 → parseFieldDescriptor (TX1 k).2.2.1 = some (tyX1 k) := by decide +kernel
abbrev cX1_needs : ByteArray := prog_3_method_2_code
def yX1_needs : MethodName := ⟨RX1, "needs", "(IIII)I"⟩
abbrev cX1_steps : ByteArray := prog_3_method_3_code
def yX1_steps : MethodName := ⟨RX1, "steps", "(I)I"⟩
abbrev cX1_laughs : ByteArray := prog_3_method_4_code
def yX1_laughs : MethodName := ⟨RX1, "laughs", "(II)I"⟩
abbrev cX1_laces : ByteArray := prog_3_method_5_code
def yX1_laces : MethodName := ⟨RX1, "laces", "(I)I"⟩
abbrev cX1_isUnder : ByteArray := prog_3_method_6_code
def yX1_isUnder : MethodName := ⟨RX1, "isUnder", "(II)Z"⟩
def RX2 : String := "LacedHouse$Sheets"
def TX2 : u_T := fun k => match k with
  | 0 => ("LacedHouse$Sheets", "numbers", "[[I", true)
  | 1 => ("LacedHouse$Sheets", "bits", "[I", true)
  | _ => ("LacedHouse$Sheets", "length", "[I", true)
def tyX2 : Nat → FieldType := fun k => match k with
  | 0 => .array (.array .int)
  | 1 => .array .int
  | _ => .array .int
theorem nmX2 : ∀ a, a < 3 → ∀ b, b < 3 → a ≠ b → (TX2 a).2.1 ≠ (TX2 b).2.1 := by decide +kernel
theorem tyX2_ok : ∀ k, k < 3 → parseFieldDescriptor (TX2 k).2.2.1 = some (tyX2 k) := by decide +kernel
abbrev cX2_init : ByteArray := prog_4_method_1_code
def yX2_init : MethodName := ⟨RX2, "<init>", "()V"⟩
abbrev cX2_isSheet : ByteArray := prog_4_method_2_code
def yX2_isSheet : MethodName := ⟨RX2, "isSheet", "(I)Z"⟩
abbrev cX2_areBits : ByteArray := prog_4_method_3_code
def yX2_areBits : MethodName := ⟨RX2, "areBits", "(I)Z"⟩
abbrev cX2_isMissing : ByteArray := prog_4_method_4_code
def yX2_isMissing : MethodName := ⟨RX2, "isMissing", "(I)Z"⟩
abbrev cX2_make : ByteArray := prog_4_method_5_code
def yX2_make : MethodName := ⟨RX2, "make", "(III)I"⟩
abbrev cX2_put : ByteArray := prog_4_method_6_code
def yX2_put : MethodName := ⟨RX2, "put", "(III)V"⟩
abbrev cX2_hasRange : ByteArray := prog_4_method_7_code
def yX2_hasRange : MethodName := ⟨RX2, "hasRange", "(III)Z"⟩
def RX3 : String := "LacedHouse$Tape"
def TX3 : u_T := fun k => match k with
  | 0 => ("LacedHouse$Tape", "bytes", "[I", true)
  | 1 => ("LacedHouse$Tape", "length", "I", false)
  | 2 => ("LacedHouse$Tape", "place", "I", false)
  | 3 => ("LacedHouse$Tape", "token", "I", false)
  | 4 => ("LacedHouse$Tape", "start", "I", false)
  | _ => ("LacedHouse$Tape", "number", "I", false)
def tyX3 : Nat → FieldType := fun k => match k with
  | 0 => .array .int
  | 1 => .int
  | 2 => .int
  | 3 => .int
  | 4 => .int
  | _ => .int
theorem nmX3 : ∀ a, a < 6 → ∀ b, b < 6 → a ≠ b → (TX3 a).2.1 ≠ (TX3 b).2.1 := by decide +kernel
theorem tyX3_ok : ∀ k, k < 6 → parseFieldDescriptor (TX3 k).2.2.1 = some (tyX3 k) := by decide +kernel
abbrev cX3_init : ByteArray := prog_5_method_1_code
def yX3_init : MethodName := ⟨RX3, "<init>", "()V"⟩
abbrev cX3_hasRoomFor : ByteArray := prog_5_method_2_code
def yX3_hasRoomFor : MethodName := ⟨RX3, "hasRoomFor", "(I)Z"⟩
abbrev cX3_add : ByteArray := prog_5_method_3_code
def yX3_add : MethodName := ⟨RX3, "add", "(I)V"⟩
abbrev cX3_read : ByteArray := prog_5_method_4_code
def yX3_read : MethodName := ⟨RX3, "read", "(LLacedHouse$House;)I"⟩
abbrev cX3_readItem : ByteArray := prog_5_method_5_code
def yX3_readItem : MethodName := ⟨RX3, "readItem", "(LLacedHouse$House;)Z"⟩
abbrev cX3_readGuest : ByteArray := prog_5_method_6_code
def yX3_readGuest : MethodName := ⟨RX3, "readGuest", "(LLacedHouse$House;I)Z"⟩
abbrev cX3_readTrait : ByteArray := prog_5_method_7_code
def yX3_readTrait : MethodName := ⟨RX3, "readTrait", "(Ljava/lang/String;[IIII)Z"⟩
abbrev cX3_readPair : ByteArray := prog_5_method_8_code
def yX3_readPair : MethodName := ⟨RX3, "readPair", "([III)Z"⟩
abbrev cX3_takeNumber : ByteArray := prog_5_method_9_code
def yX3_takeNumber : MethodName := ⟨RX3, "takeNumber", "(II)Z"⟩
abbrev cX3_kindTold : ByteArray := prog_5_method_10_code
def yX3_kindTold : MethodName := ⟨RX3, "kindTold", "()I"⟩
abbrev cX3_wordOf : ByteArray := prog_5_method_11_code
def yX3_wordOf : MethodName := ⟨RX3, "wordOf", "(I)Ljava/lang/String;"⟩
abbrev cX3_isWord : ByteArray := prog_5_method_12_code
def yX3_isWord : MethodName := ⟨RX3, "isWord", "(Ljava/lang/String;)Z"⟩
abbrev cX3_next : ByteArray := prog_5_method_13_code
def yX3_next : MethodName := ⟨RX3, "next", "()V"⟩
abbrev cX3_isLetter : ByteArray := prog_5_method_14_code
def yX3_isLetter : MethodName := ⟨RX3, "isLetter", "(I)Z"⟩
abbrev cX3_isDigit : ByteArray := prog_5_method_15_code
def yX3_isDigit : MethodName := ⟨RX3, "isDigit", "(I)Z"⟩
def RX4 : String := "LacedHouse"
def TX4 : u_T := fun k => match k with
  | 0 => ("LacedHouse", "house", "LLacedHouse$House;", true)
  | 1 => ("LacedHouse", "kept", "LLacedHouse$House;", true)
  | 2 => ("LacedHouse", "trial", "LLacedHouse$House;", true)
  | 3 => ("LacedHouse", "isKept", "Z", false)
  | 4 => ("LacedHouse", "sheets", "LLacedHouse$Sheets;", true)
  | 5 => ("LacedHouse", "tape", "LLacedHouse$Tape;", true)
  | _ => ("LacedHouse", "findings", "[I", true)
def tyX4 : Nat → FieldType := fun k => match k with
  | 0 => .object "LacedHouse$House"
  | 1 => .object "LacedHouse$House"
  | 2 => .object "LacedHouse$House"
  | 3 => .boolean
  | 4 => .object "LacedHouse$Sheets"
  | 5 => .object "LacedHouse$Tape"
  | _ => .array .int
theorem nmX4 : ∀ a, a < 7 → ∀ b, b < 7 → a ≠ b → (TX4 a).2.1 ≠ (TX4 b).2.1 := by decide +kernel
theorem tyX4_ok : ∀ k, k < 7 → parseFieldDescriptor (TX4 k).2.2.1 = some (tyX4 k) := by decide +kernel
abbrev cX4_init : ByteArray := prog_1_method_1_code
def yX4_init : MethodName := ⟨RX4, "<init>", "()V"⟩
abbrev cX4_set : ByteArray := prog_1_method_2_code
def yX4_set : MethodName := ⟨RX4, "set", "(II)I"⟩
abbrev cX4_cell : ByteArray := prog_1_method_3_code
def yX4_cell : MethodName := ⟨RX4, "cell", "(II)I"⟩
abbrev cX4_measure : ByteArray := prog_1_method_4_code
def yX4_measure : MethodName := ⟨RX4, "measure", "(II)I"⟩
abbrev cX4_listed : ByteArray := prog_1_method_5_code
def yX4_listed : MethodName := ⟨RX4, "listed", "(I)I"⟩
abbrev cX4_wide : ByteArray := prog_1_method_6_code
def yX4_wide : MethodName := ⟨RX4, "wide", "(II)I"⟩
abbrev cX4_guest : ByteArray := prog_1_method_7_code
def yX4_guest : MethodName := ⟨RX4, "guest", "(II)I"⟩
abbrev cX4_of : ByteArray := prog_1_method_8_code
def yX4_of : MethodName := ⟨RX4, "of", "(II)I"⟩
abbrev cX4_change : ByteArray := prog_1_method_9_code
def yX4_change : MethodName := ⟨RX4, "change", "(III)I"⟩
abbrev cX4_reach : ByteArray := prog_1_method_10_code
def yX4_reach : MethodName := ⟨RX4, "reach", "(II)I"⟩
abbrev cX4_go : ByteArray := prog_1_method_11_code
def yX4_go : MethodName := ⟨RX4, "go", "(I)I"⟩
abbrev cX4_now : ByteArray := prog_1_method_12_code
def yX4_now : MethodName := ⟨RX4, "now", "(I)I"⟩
abbrev cX4_ahead : ByteArray := prog_1_method_13_code
def yX4_ahead : MethodName := ⟨RX4, "ahead", "(III)I"⟩
abbrev cX4_strain : ByteArray := prog_1_method_14_code
def yX4_strain : MethodName := ⟨RX4, "strain", "(I)I"⟩
abbrev cX4_snaps : ByteArray := prog_1_method_15_code
def yX4_snaps : MethodName := ⟨RX4, "snaps", "()I"⟩
abbrev cX4_comes : ByteArray := prog_1_method_16_code
def yX4_comes : MethodName := ⟨RX4, "comes", "(II)I"⟩
abbrev cX4_stuck : ByteArray := prog_1_method_17_code
def yX4_stuck : MethodName := ⟨RX4, "stuck", "(II)I"⟩
abbrev cX4_tight : ByteArray := prog_1_method_18_code
def yX4_tight : MethodName := ⟨RX4, "tight", "(II)I"⟩
abbrev cX4_measureFor : ByteArray := prog_1_method_19_code
def yX4_measureFor : MethodName := ⟨RX4, "measureFor", "(II)I"⟩
abbrev cX4_kindFor : ByteArray := prog_1_method_20_code
def yX4_kindFor : MethodName := ⟨RX4, "kindFor", "(II)I"⟩
abbrev cX4_sizeFor : ByteArray := prog_1_method_21_code
def yX4_sizeFor : MethodName := ⟨RX4, "sizeFor", "(II)I"⟩
abbrev cX4_send : ByteArray := prog_1_method_22_code
def yX4_send : MethodName := ⟨RX4, "send", "(I)I"⟩
abbrev cX4_fits : ByteArray := prog_1_method_23_code
def yX4_fits : MethodName := ⟨RX4, "fits", "(II)I"⟩
abbrev cX4_kinds : ByteArray := prog_1_method_24_code
def yX4_kinds : MethodName := ⟨RX4, "kinds", "(II)I"⟩
abbrev cX4_party : ByteArray := prog_1_method_25_code
def yX4_party : MethodName := ⟨RX4, "party", "(I)I"⟩
abbrev cX4_odds : ByteArray := prog_1_method_26_code
def yX4_odds : MethodName := ⟨RX4, "odds", "(III)J"⟩
abbrev cX4_seed : ByteArray := prog_1_method_27_code
def yX4_seed : MethodName := ⟨RX4, "seed", "(I)I"⟩
abbrev cX4_feed : ByteArray := prog_1_method_28_code
def yX4_feed : MethodName := ⟨RX4, "feed", "(II)I"⟩
abbrev cX4_wipe : ByteArray := prog_1_method_29_code
def yX4_wipe : MethodName := ⟨RX4, "wipe", "()I"⟩
abbrev cX4_text : ByteArray := prog_1_method_30_code
def yX4_text : MethodName := ⟨RX4, "text", "()I"⟩
abbrev cX4_hold : ByteArray := prog_1_method_31_code
def yX4_hold : MethodName := ⟨RX4, "hold", "(II)I"⟩
abbrev cX4_as : ByteArray := prog_1_method_32_code
def yX4_as : MethodName := ⟨RX4, "as", "(II)I"⟩
abbrev cX4_sheet : ByteArray := prog_1_method_33_code
def yX4_sheet : MethodName := ⟨RX4, "sheet", "(III)I"⟩
abbrev cX4_write : ByteArray := prog_1_method_34_code
def yX4_write : MethodName := ⟨RX4, "write", "(III)I"⟩
abbrev cX4_copy : ByteArray := prog_1_method_35_code
def yX4_copy : MethodName := ⟨RX4, "copy", "(IIIII)I"⟩
abbrev cX4_load : ByteArray := prog_1_method_36_code
def yX4_load : MethodName := ⟨RX4, "load", "(I)I"⟩
abbrev cX4_judge : ByteArray := prog_1_method_37_code
def yX4_judge : MethodName := ⟨RX4, "judge", "(I)I"⟩
abbrev cX4_image : ByteArray := prog_1_method_38_code
def yX4_image : MethodName := ⟨RX4, "image", "()I"⟩
abbrev cX4_undo : ByteArray := prog_1_method_39_code
def yX4_undo : MethodName := ⟨RX4, "undo", "()I"⟩
abbrev cX4_tear : ByteArray := prog_1_method_40_code
def yX4_tear : MethodName := ⟨RX4, "tear", "()I"⟩
abbrev cX4_count : ByteArray := prog_1_method_41_code
def yX4_count : MethodName := ⟨RX4, "count", "(I)I"⟩
abbrev cX4_status : ByteArray := prog_1_method_42_code
def yX4_status : MethodName := ⟨RX4, "status", "(I)I"⟩
abbrev cX4_found : ByteArray := prog_1_method_43_code
def yX4_found : MethodName := ⟨RX4, "found", "(I)I"⟩
abbrev cX4_within : ByteArray := prog_1_method_44_code
def yX4_within : MethodName := ⟨RX4, "within", "(III)Z"⟩
abbrev cX4_isCell : ByteArray := prog_1_method_45_code
def yX4_isCell : MethodName := ⟨RX4, "isCell", "(I)Z"⟩
abbrev cX4_isListed : ByteArray := prog_1_method_46_code
def yX4_isListed : MethodName := ⟨RX4, "isListed", "(I)Z"⟩
abbrev cX4_isMeasure : ByteArray := prog_1_method_47_code
def yX4_isMeasure : MethodName := ⟨RX4, "isMeasure", "(I)Z"⟩
abbrev cX4_isKind : ByteArray := prog_1_method_48_code
def yX4_isKind : MethodName := ⟨RX4, "isKind", "(I)Z"⟩
abbrev cX4_isSpot : ByteArray := prog_1_method_49_code
def yX4_isSpot : MethodName := ⟨RX4, "isSpot", "(I)Z"⟩
abbrev cX4_isGuest : ByteArray := prog_1_method_50_code
def yX4_isGuest : MethodName := ⟨RX4, "isGuest", "(I)Z"⟩
abbrev cX4_startTrial : ByteArray := prog_1_method_51_code
def yX4_startTrial : MethodName := ⟨RX4, "startTrial", "()V"⟩
abbrev cX4_lackOfSheet : ByteArray := prog_1_method_52_code
def yX4_lackOfSheet : MethodName := ⟨RX4, "lackOfSheet", "(I)I"⟩
abbrev cX4_lackOfTold : ByteArray := prog_1_method_53_code
def yX4_lackOfTold : MethodName := ⟨RX4, "lackOfTold", "(II)I"⟩
abbrev cX4_trialGoesAsTold : ByteArray := prog_1_method_54_code
def yX4_trialGoesAsTold : MethodName := ⟨RX4, "trialGoesAsTold", "(II)Z"⟩
abbrev cX4_commonDivisor : ByteArray := prog_1_method_55_code
def yX4_commonDivisor : MethodName := ⟨RX4, "commonDivisor", "(II)I"⟩
def RX5 : String := "LacedHouseModel"
def TX5 : u_T := fun k => match k with
  | 0 => ("LacedHouseModel", "now", "[I", true)
  | 1 => ("LacedHouseModel", "kept", "[I", true)
  | 2 => ("LacedHouseModel", "aside", "[I", true)
  | 3 => ("LacedHouseModel", "isKept", "Z", false)
  | 4 => ("LacedHouseModel", "found", "[I", true)
  | 5 => ("LacedHouseModel", "tape", "[I", true)
  | 6 => ("LacedHouseModel", "taped", "I", false)
  | 7 => ("LacedHouseModel", "begins", "I", false)
  | 8 => ("LacedHouseModel", "ends", "I", false)
  | 9 => ("LacedHouseModel", "sort", "I", false)
  | 10 => ("LacedHouseModel", "value", "I", false)
  | 11 => ("LacedHouseModel", "isWrong", "Z", false)
  | 12 => ("LacedHouseModel", "kindNames", "[Ljava/lang/String;", true)
  | 13 => ("LacedHouseModel", "items", "[I", true)
  | 14 => ("LacedHouseModel", "itemMany", "I", false)
  | 15 => ("LacedHouseModel", "guestsThen", "I", false)
  | 16 => ("LacedHouseModel", "widths", "[I", true)
  | 17 => ("LacedHouseModel", "sizes", "[I", true)
  | 18 => ("LacedHouseModel", "numbers", "[I", true)
  | _ => ("LacedHouseModel", "moved", "[I", true)
def tyX5 : Nat → FieldType := fun k => match k with
  | 0 => .array .int
  | 1 => .array .int
  | 2 => .array .int
  | 3 => .boolean
  | 4 => .array .int
  | 5 => .array .int
  | 6 => .int
  | 7 => .int
  | 8 => .int
  | 9 => .int
  | 10 => .int
  | 11 => .boolean
  | 12 => .array (.object "java/lang/String")
  | 13 => .array .int
  | 14 => .int
  | 15 => .int
  | 16 => .array .int
  | 17 => .array .int
  | 18 => .array .int
  | _ => .array .int
theorem nmX5 : ∀ a, a < 20 → ∀ b, b < 20 → a ≠ b → (TX5 a).2.1 ≠ (TX5 b).2.1 := by decide +kernel
theorem tyX5_ok : ∀ k, k < 20 → parseFieldDescriptor (TX5 k).2.2.1 = some (tyX5 k) := by decide +kernel
abbrev cX5_init : ByteArray := prog_7_method_1_code
def yX5_init : MethodName := ⟨RX5, "<init>", "()V"⟩
abbrev cX5_finding : ByteArray := prog_7_method_2_code
def yX5_finding : MethodName := ⟨RX5, "finding", "(I)I"⟩
abbrev cX5_within : ByteArray := prog_7_method_3_code
def yX5_within : MethodName := ⟨RX5, "within", "(III)Z"⟩
abbrev cX5_become : ByteArray := prog_7_method_4_code
def yX5_become : MethodName := ⟨RX5, "become", "(II)I"⟩
abbrev cX5_copyRow : ByteArray := prog_7_method_5_code
def yX5_copyRow : MethodName := ⟨RX5, "copyRow", "([I[I)V"⟩
abbrev cX5_putBack : ByteArray := prog_7_method_6_code
def yX5_putBack : MethodName := ⟨RX5, "putBack", "(I)I"⟩
abbrev cX5_orNone : ByteArray := prog_7_method_7_code
def yX5_orNone : MethodName := ⟨RX5, "orNone", "(I)I"⟩
abbrev cX5_bits : ByteArray := prog_7_method_8_code
def yX5_bits : MethodName := ⟨RX5, "bits", "(I)I"⟩
abbrev cX5_isCell : ByteArray := prog_7_method_9_code
def yX5_isCell : MethodName := ⟨RX5, "isCell", "(I)Z"⟩
abbrev cX5_isMeasure : ByteArray := prog_7_method_10_code
def yX5_isMeasure : MethodName := ⟨RX5, "isMeasure", "(I)Z"⟩
abbrev cX5_isOften : ByteArray := prog_7_method_11_code
def yX5_isOften : MethodName := ⟨RX5, "isOften", "(I)Z"⟩
abbrev cX5_isBase : ByteArray := prog_7_method_12_code
def yX5_isBase : MethodName := ⟨RX5, "isBase", "(I)Z"⟩
abbrev cX5_set : ByteArray := prog_7_method_13_code
def yX5_set : MethodName := ⟨RX5, "set", "(II)I"⟩
abbrev cX5_cell : ByteArray := prog_7_method_14_code
def yX5_cell : MethodName := ⟨RX5, "cell", "(II)I"⟩
abbrev cX5_isPlace : ByteArray := prog_7_method_15_code
def yX5_isPlace : MethodName := ⟨RX5, "isPlace", "(I)Z"⟩
abbrev cX5_measure : ByteArray := prog_7_method_16_code
def yX5_measure : MethodName := ⟨RX5, "measure", "(II)I"⟩
abbrev cX5_listed : ByteArray := prog_7_method_17_code
def yX5_listed : MethodName := ⟨RX5, "listed", "(I)I"⟩
abbrev cX5_placeNow : ByteArray := prog_7_method_18_code
def yX5_placeNow : MethodName := ⟨RX5, "placeNow", "()I"⟩
abbrev cX5_measureNow : ByteArray := prog_7_method_19_code
def yX5_measureNow : MethodName := ⟨RX5, "measureNow", "()I"⟩
abbrev cX5_wideAt : ByteArray := prog_7_method_20_code
def yX5_wideAt : MethodName := ⟨RX5, "wideAt", "(II)I"⟩
abbrev cX5_wide : ByteArray := prog_7_method_21_code
def yX5_wide : MethodName := ⟨RX5, "wide", "(II)I"⟩
abbrev cX5_guestAt : ByteArray := prog_7_method_22_code
def yX5_guestAt : MethodName := ⟨RX5, "guestAt", "(II)I"⟩
abbrev cX5_guestIs : ByteArray := prog_7_method_23_code
def yX5_guestIs : MethodName := ⟨RX5, "guestIs", "(II)I"⟩
abbrev cX5_isGuest : ByteArray := prog_7_method_24_code
def yX5_isGuest : MethodName := ⟨RX5, "isGuest", "(I)Z"⟩
abbrev cX5_isKind : ByteArray := prog_7_method_25_code
def yX5_isKind : MethodName := ⟨RX5, "isKind", "(I)Z"⟩
abbrev cX5_comesIn : ByteArray := prog_7_method_26_code
def yX5_comesIn : MethodName := ⟨RX5, "comesIn", "(II)I"⟩
abbrev cX5_guest : ByteArray := prog_7_method_27_code
def yX5_guest : MethodName := ⟨RX5, "guest", "(II)I"⟩
abbrev cX5_needs : ByteArray := prog_7_method_28_code
def yX5_needs : MethodName := ⟨RX5, "needs", "(I)I"⟩
abbrev cX5_steps : ByteArray := prog_7_method_29_code
def yX5_steps : MethodName := ⟨RX5, "steps", "(I)I"⟩
abbrev cX5_laughs : ByteArray := prog_7_method_30_code
def yX5_laughs : MethodName := ⟨RX5, "laughs", "(I)I"⟩
abbrev cX5_laces : ByteArray := prog_7_method_31_code
def yX5_laces : MethodName := ⟨RX5, "laces", "(I)I"⟩
abbrev cX5_told : ByteArray := prog_7_method_32_code
def yX5_told : MethodName := ⟨RX5, "told", "(II)I"⟩
abbrev cX5_of : ByteArray := prog_7_method_33_code
def yX5_of : MethodName := ⟨RX5, "of", "(II)I"⟩
abbrev cX5_isField : ByteArray := prog_7_method_34_code
def yX5_isField : MethodName := ⟨RX5, "isField", "(II)Z"⟩
abbrev cX5_change : ByteArray := prog_7_method_35_code
def yX5_change : MethodName := ⟨RX5, "change", "(III)I"⟩
abbrev cX5_reachOf : ByteArray := prog_7_method_36_code
def yX5_reachOf : MethodName := ⟨RX5, "reachOf", "(II)I"⟩
abbrev cX5_reach : ByteArray := prog_7_method_37_code
def yX5_reach : MethodName := ⟨RX5, "reach", "(II)I"⟩
abbrev cX5_goes : ByteArray := prog_7_method_38_code
def yX5_goes : MethodName := ⟨RX5, "goes", "(II)V"⟩
abbrev cX5_isIn : ByteArray := prog_7_method_39_code
def yX5_isIn : MethodName := ⟨RX5, "isIn", "(I)Z"⟩
abbrev cX5_strains : ByteArray := prog_7_method_40_code
def yX5_strains : MethodName := ⟨RX5, "strains", "(I)V"⟩
abbrev cX5_hour : ByteArray := prog_7_method_41_code
def yX5_hour : MethodName := ⟨RX5, "hour", "()V"⟩
abbrev cX5_hoursGo : ByteArray := prog_7_method_42_code
def yX5_hoursGo : MethodName := ⟨RX5, "hoursGo", "(I)V"⟩
abbrev cX5_go : ByteArray := prog_7_method_43_code
def yX5_go : MethodName := ⟨RX5, "go", "(I)I"⟩
abbrev cX5_stuckOnes : ByteArray := prog_7_method_44_code
def yX5_stuckOnes : MethodName := ⟨RX5, "stuckOnes", "()I"⟩
abbrev cX5_arrived : ByteArray := prog_7_method_45_code
def yX5_arrived : MethodName := ⟨RX5, "arrived", "()I"⟩
abbrev cX5_inTheHall : ByteArray := prog_7_method_46_code
def yX5_inTheHall : MethodName := ⟨RX5, "inTheHall", "()I"⟩
abbrev cX5_shutCells : ByteArray := prog_7_method_47_code
def yX5_shutCells : MethodName := ⟨RX5, "shutCells", "()I"⟩
abbrev cX5_now : ByteArray := prog_7_method_48_code
def yX5_now : MethodName := ⟨RX5, "now", "(I)I"⟩
abbrev cX5_behind : ByteArray := prog_7_method_49_code
def yX5_behind : MethodName := ⟨RX5, "behind", "(II)I"⟩
abbrev cX5_ahead : ByteArray := prog_7_method_50_code
def yX5_ahead : MethodName := ⟨RX5, "ahead", "(III)I"⟩
abbrev cX5_strain : ByteArray := prog_7_method_51_code
def yX5_strain : MethodName := ⟨RX5, "strain", "(I)I"⟩
abbrev cX5_hoursTo : ByteArray := prog_7_method_52_code
def yX5_hoursTo : MethodName := ⟨RX5, "hoursTo", "(III)I"⟩
abbrev cX5_snaps : ByteArray := prog_7_method_53_code
def yX5_snaps : MethodName := ⟨RX5, "snaps", "()I"⟩
abbrev cX5_comes : ByteArray := prog_7_method_54_code
def yX5_comes : MethodName := ⟨RX5, "comes", "(II)I"⟩
abbrev cX5_stuck : ByteArray := prog_7_method_55_code
def yX5_stuck : MethodName := ⟨RX5, "stuck", "(II)I"⟩
abbrev cX5_isThought : ByteArray := prog_7_method_56_code
def yX5_isThought : MethodName := ⟨RX5, "isThought", "(I)Z"⟩
abbrev cX5_tight : ByteArray := prog_7_method_57_code
def yX5_tight : MethodName := ⟨RX5, "tight", "(II)I"⟩
abbrev cX5_measureFor : ByteArray := prog_7_method_58_code
def yX5_measureFor : MethodName := ⟨RX5, "measureFor", "(II)I"⟩
abbrev cX5_kindFor : ByteArray := prog_7_method_59_code
def yX5_kindFor : MethodName := ⟨RX5, "kindFor", "(II)I"⟩
abbrev cX5_sizeFor : ByteArray := prog_7_method_60_code
def yX5_sizeFor : MethodName := ⟨RX5, "sizeFor", "(II)I"⟩
abbrev cX5_holds : ByteArray := prog_7_method_61_code
def yX5_holds : MethodName := ⟨RX5, "holds", "(II)Z"⟩
abbrev cX5_send : ByteArray := prog_7_method_62_code
def yX5_send : MethodName := ⟨RX5, "send", "(I)I"⟩
abbrev cX5_lacks : ByteArray := prog_7_method_63_code
def yX5_lacks : MethodName := ⟨RX5, "lacks", "(IZ)I"⟩
abbrev cX5_isSo : ByteArray := prog_7_method_64_code
def yX5_isSo : MethodName := ⟨RX5, "isSo", "(II)Z"⟩
abbrev cX5_fits : ByteArray := prog_7_method_65_code
def yX5_fits : MethodName := ⟨RX5, "fits", "(II)I"⟩
abbrev cX5_kinds : ByteArray := prog_7_method_66_code
def yX5_kinds : MethodName := ⟨RX5, "kinds", "(II)I"⟩
abbrev cX5_drawn : ByteArray := prog_7_method_67_code
def yX5_drawn : MethodName := ⟨RX5, "drawn", "()I"⟩
abbrev cX5_party : ByteArray := prog_7_method_68_code
def yX5_party : MethodName := ⟨RX5, "party", "(I)I"⟩
abbrev cX5_odds : ByteArray := prog_7_method_69_code
def yX5_odds : MethodName := ⟨RX5, "odds", "(III)J"⟩
abbrev cX5_seed : ByteArray := prog_7_method_70_code
def yX5_seed : MethodName := ⟨RX5, "seed", "(I)I"⟩
abbrev cX5_feed : ByteArray := prog_7_method_71_code
def yX5_feed : MethodName := ⟨RX5, "feed", "(II)I"⟩
abbrev cX5_wipe : ByteArray := prog_7_method_72_code
def yX5_wipe : MethodName := ⟨RX5, "wipe", "()I"⟩
abbrev cX5_byteAt : ByteArray := prog_7_method_73_code
def yX5_byteAt : MethodName := ⟨RX5, "byteAt", "(I)I"⟩
abbrev cX5_token : ByteArray := prog_7_method_74_code
def yX5_token : MethodName := ⟨RX5, "token", "()V"⟩
abbrev cX5_isWord : ByteArray := prog_7_method_75_code
def yX5_isWord : MethodName := ⟨RX5, "isWord", "(Ljava/lang/String;)Z"⟩
abbrev cX5_must : ByteArray := prog_7_method_76_code
def yX5_must : MethodName := ⟨RX5, "must", "(Z)V"⟩
abbrev cX5_number : ByteArray := prog_7_method_77_code
def yX5_number : MethodName := ⟨RX5, "number", "(II)I"⟩
abbrev cX5_addItem : ByteArray := prog_7_method_78_code
def yX5_addItem : MethodName := ⟨RX5, "addItem", "(IIII)V"⟩
abbrev cX5_takesWord : ByteArray := prog_7_method_79_code
def yX5_takesWord : MethodName := ⟨RX5, "takesWord", "(Ljava/lang/String;)Z"⟩
abbrev cX5_readGuest : ByteArray := prog_7_method_80_code
def yX5_readGuest : MethodName := ⟨RX5, "readGuest", "(I)V"⟩
abbrev cX5_readItem : ByteArray := prog_7_method_81_code
def yX5_readItem : MethodName := ⟨RX5, "readItem", "()V"⟩
abbrev cX5_isToldSo : ByteArray := prog_7_method_82_code
def yX5_isToldSo : MethodName := ⟨RX5, "isToldSo", "(I)V"⟩
abbrev cX5_text : ByteArray := prog_7_method_83_code
def yX5_text : MethodName := ⟨RX5, "text", "()I"⟩
abbrev cX5_isSpot : ByteArray := prog_7_method_84_code
def yX5_isSpot : MethodName := ⟨RX5, "isSpot", "(I)Z"⟩
abbrev cX5_hold : ByteArray := prog_7_method_85_code
def yX5_hold : MethodName := ⟨RX5, "hold", "(II)I"⟩
abbrev cX5_as : ByteArray := prog_7_method_86_code
def yX5_as : MethodName := ⟨RX5, "as", "(II)I"⟩
abbrev cX5_isSheet : ByteArray := prog_7_method_87_code
def yX5_isSheet : MethodName := ⟨RX5, "isSheet", "(I)Z"⟩
abbrev cX5_cutTo : ByteArray := prog_7_method_88_code
def yX5_cutTo : MethodName := ⟨RX5, "cutTo", "(II)I"⟩
abbrev cX5_sheet : ByteArray := prog_7_method_89_code
def yX5_sheet : MethodName := ⟨RX5, "sheet", "(III)I"⟩
abbrev cX5_write : ByteArray := prog_7_method_90_code
def yX5_write : MethodName := ⟨RX5, "write", "(III)I"⟩
abbrev cX5_copy : ByteArray := prog_7_method_91_code
def yX5_copy : MethodName := ⟨RX5, "copy", "(IIIII)I"⟩
abbrev cX5_above : ByteArray := prog_7_method_92_code
def yX5_above : MethodName := ⟨RX5, "above", "(I)I"⟩
abbrev cX5_isUnder : ByteArray := prog_7_method_93_code
def yX5_isUnder : MethodName := ⟨RX5, "isUnder", "(II)Z"⟩
abbrev cX5_load : ByteArray := prog_7_method_94_code
def yX5_load : MethodName := ⟨RX5, "load", "(I)I"⟩
abbrev cX5_judge : ByteArray := prog_7_method_95_code
def yX5_judge : MethodName := ⟨RX5, "judge", "(I)I"⟩
abbrev cX5_image : ByteArray := prog_7_method_96_code
def yX5_image : MethodName := ⟨RX5, "image", "()I"⟩
abbrev cX5_undo : ByteArray := prog_7_method_97_code
def yX5_undo : MethodName := ⟨RX5, "undo", "()I"⟩
abbrev cX5_tear : ByteArray := prog_7_method_98_code
def yX5_tear : MethodName := ⟨RX5, "tear", "()I"⟩
abbrev cX5_count : ByteArray := prog_7_method_99_code
def yX5_count : MethodName := ⟨RX5, "count", "(I)I"⟩
abbrev cX5_status : ByteArray := prog_7_method_100_code
def yX5_status : MethodName := ⟨RX5, "status", "(I)I"⟩
def RJ6 : String := "java/lang/Integer"
abbrev cJ6_bitCount_0f7a4 : ByteArray := prog_8_method_49_code
def yJ6_bitCount_0f7a4 : MethodName := ⟨RJ6, "bitCount", "(I)I"⟩
def RJ9 : String := "java/lang/Math"
abbrev cJ9_max_7cf53 : ByteArray := prog_9_method_65_code
def yJ9_max_7cf53 : MethodName := ⟨RJ9, "max", "(II)I"⟩
abbrev cJ9_min_7cf53 : ByteArray := prog_9_method_69_code
def yJ9_min_7cf53 : MethodName := ⟨RJ9, "min", "(II)I"⟩
def RJ0 : String := "java/lang/String"
abbrev cJ0_length_8abf5 : ByteArray := prog_10_method_54_code
def yJ0_length_8abf5 : MethodName := ⟨RJ0, "length", "()I"⟩
abbrev cJ0_charAt_5068e : ByteArray := prog_10_method_56_code
def yJ0_charAt_5068e : MethodName := ⟨RJ0, "charAt", "(I)C"⟩
abbrev cJ0_coder_7d493 : ByteArray := prog_10_method_152_code
def yJ0_coder_7d493 : MethodName := ⟨RJ0, "coder", "()B"⟩
abbrev cJ0_isLatin1_aae02 : ByteArray := prog_10_method_154_code
def yJ0_isLatin1_aae02 : MethodName := ⟨RJ0, "isLatin1", "()Z"⟩
abbrev cJ0_checkIndex_df160 : ByteArray := prog_10_method_155_code
def yJ0_checkIndex_df160 : MethodName := ⟨RJ0, "checkIndex", "(II)V"⟩
def RJ1 : String := "java/lang/StringLatin1"
abbrev cJ1_charAt_3b067 : ByteArray := prog_11_method_2_code
def yJ1_charAt_3b067 : MethodName := ⟨RJ1, "charAt", "([BI)C"⟩
def RJ10 : String := "java/lang/System"
def RJ7 : String := "java/util/Arrays"
abbrev cJ7_fill_53178 : ByteArray := prog_14_method_103_code
def yJ7_fill_53178 : MethodName := ⟨RJ7, "fill", "([II)V"⟩
def RJ3 : String := "jdk/internal/util/Preconditions"
abbrev cJ3_checkIndex_8e157 : ByteArray := prog_15_method_11_code
def yJ3_checkIndex_8e157 : MethodName := ⟨RJ3, "checkIndex", "(IILjava/util/function/BiFunction;)I"⟩
abbrev vwCl : List vw_C := [(RX0, TX0, 15), (RX2, TX2, 3), (RX3, TX3, 6), (RX4, TX4, 7), (RX5, TX5, 20)]
def RL : String := "LacedHouseLaw"
abbrev cL_law : ByteArray := code
end
section
theorem dX0_init_0 : decode cX0_init 0 = .ok (.aload_n 0, 1) := by decide +kernel
theorem dX0_init_1 : decode cX0_init 1 = .ok (.invokespecial 1, 3) := by decide +kernel
theorem dX0_init_4 : decode cX0_init 4 = .ok (.aload_n 0, 1) := by decide +kernel
theorem dX0_init_5 : decode cX0_init 5 = .ok (.bipush 16, 2) := by decide +kernel
theorem dX0_init_7 : decode cX0_init 7 = .ok (.newarray .int, 2) := by decide +kernel
theorem dX0_init_9 : decode cX0_init 9 = .ok (.putfield 9, 3) := by decide +kernel
theorem dX0_init_12 : decode cX0_init 12 = .ok (.aload_n 0, 1) := by decide +kernel
theorem dX0_init_13 : decode cX0_init 13 = .ok (.bipush 6, 2) := by decide +kernel
theorem dX0_init_15 : decode cX0_init 15 = .ok (.newarray .int, 2) := by decide +kernel
theorem dX0_init_17 : decode cX0_init 17 = .ok (.putfield 13, 3) := by decide +kernel
theorem dX0_init_20 : decode cX0_init 20 = .ok (.aload_n 0, 1) := by decide +kernel
theorem dX0_init_21 : decode cX0_init 21 = .ok (.sipush 200, 3) := by decide +kernel
theorem dX0_init_24 : decode cX0_init 24 = .ok (.putfield 16, 3) := by decide +kernel
theorem dX0_init_27 : decode cX0_init 27 = .ok (.aload_n 0, 1) := by decide +kernel
theorem dX0_init_28 : decode cX0_init 28 = .ok (.iconst 0, 1) := by decide +kernel
theorem dX0_init_29 : decode cX0_init 29 = .ok (.putfield 20, 3) := by decide +kernel
theorem dX0_init_32 : decode cX0_init 32 = .ok (.aload_n 0, 1) := by decide +kernel
theorem dX0_init_33 : decode cX0_init 33 = .ok (.iconst 0, 1) := by decide +kernel
theorem dX0_init_34 : decode cX0_init 34 = .ok (.putfield 23, 3) := by decide +kernel
theorem dX0_init_37 : decode cX0_init 37 = .ok (.aload_n 0, 1) := by decide +kernel
theorem dX0_init_38 : decode cX0_init 38 = .ok (.iconst 0, 1) := by decide +kernel
theorem dX0_init_39 : decode cX0_init 39 = .ok (.putfield 26, 3) := by decide +kernel
theorem dX0_init_42 : decode cX0_init 42 = .ok (.aload_n 0, 1) := by decide +kernel
theorem dX0_init_43 : decode cX0_init 43 = .ok (.iconst 0, 1) := by decide +kernel
theorem dX0_init_44 : decode cX0_init 44 = .ok (.putfield 29, 3) := by decide +kernel
theorem dX0_init_47 : decode cX0_init 47 = .ok (.aload_n 0, 1) := by decide +kernel
theorem dX0_init_48 : decode cX0_init 48 = .ok (.bipush 8, 2) := by decide +kernel
theorem dX0_init_50 : decode cX0_init 50 = .ok (.newarray .int, 2) := by decide +kernel
theorem dX0_init_52 : decode cX0_init 52 = .ok (.putfield 32, 3) := by decide +kernel
theorem dX0_init_55 : decode cX0_init 55 = .ok (.aload_n 0, 1) := by decide +kernel
theorem dX0_init_56 : decode cX0_init 56 = .ok (.bipush 8, 2) := by decide +kernel
theorem dX0_init_58 : decode cX0_init 58 = .ok (.newarray .int, 2) := by decide +kernel
theorem dX0_init_60 : decode cX0_init 60 = .ok (.putfield 35, 3) := by decide +kernel
theorem dX0_init_63 : decode cX0_init 63 = .ok (.aload_n 0, 1) := by decide +kernel
theorem dX0_init_64 : decode cX0_init 64 = .ok (.bipush 8, 2) := by decide +kernel
theorem dX0_init_66 : decode cX0_init 66 = .ok (.newarray .int, 2) := by decide +kernel
theorem dX0_init_68 : decode cX0_init 68 = .ok (.putfield 38, 3) := by decide +kernel
theorem dX0_init_71 : decode cX0_init 71 = .ok (.aload_n 0, 1) := by decide +kernel
theorem dX0_init_72 : decode cX0_init 72 = .ok (.bipush 8, 2) := by decide +kernel
theorem dX0_init_74 : decode cX0_init 74 = .ok (.newarray .int, 2) := by decide +kernel
theorem dX0_init_76 : decode cX0_init 76 = .ok (.putfield 41, 3) := by decide +kernel
theorem dX0_init_79 : decode cX0_init 79 = .ok (.aload_n 0, 1) := by decide +kernel
theorem dX0_init_80 : decode cX0_init 80 = .ok (.bipush 8, 2) := by decide +kernel
theorem dX0_init_82 : decode cX0_init 82 = .ok (.newarray .int, 2) := by decide +kernel
theorem dX0_init_84 : decode cX0_init 84 = .ok (.putfield 44, 3) := by decide +kernel
theorem dX0_init_87 : decode cX0_init 87 = .ok (.aload_n 0, 1) := by decide +kernel
theorem dX0_init_88 : decode cX0_init 88 = .ok (.bipush 8, 2) := by decide +kernel
theorem dX0_init_90 : decode cX0_init 90 = .ok (.newarray .int, 2) := by decide +kernel
theorem dX0_init_92 : decode cX0_init 92 = .ok (.putfield 47, 3) := by decide +kernel
theorem dX0_init_95 : decode cX0_init 95 = .ok (.aload_n 0, 1) := by decide +kernel
theorem dX0_init_96 : decode cX0_init 96 = .ok (.iconst 1, 1) := by decide +kernel
theorem dX0_init_97 : decode cX0_init 97 = .ok (.putfield 50, 3) := by decide +kernel
theorem dX0_init_100 : decode cX0_init 100 = .ok (.aload_n 0, 1) := by decide +kernel
theorem dX0_init_101 : decode cX0_init 101 = .ok (.bipush 10, 2) := by decide +kernel
theorem dX0_init_103 : decode cX0_init 103 = .ok (.newarray .int, 2) := by decide +kernel
theorem dX0_init_105 : decode cX0_init 105 = .ok (.putfield 53, 3) := by decide +kernel
theorem dX0_init_108 : decode cX0_init 108 = .ok (.aload_n 0, 1) := by decide +kernel
theorem dX0_init_109 : decode cX0_init 109 = .ok (.getfield 9, 3) := by decide +kernel
theorem dX0_init_112 : decode cX0_init 112 = .ok (.bipush 20, 2) := by decide +kernel
theorem dX0_init_114 : decode cX0_init 114 = .ok (.invokestatic 56, 3) := by decide +kernel
theorem dX0_init_117 : decode cX0_init 117 = .ok (.aload_n 0, 1) := by decide +kernel
theorem dX0_init_118 : decode cX0_init 118 = .ok (.getfield 13, 3) := by decide +kernel
theorem dX0_init_121 : decode cX0_init 121 = .ok (.bipush 26, 2) := by decide +kernel
theorem dX0_init_123 : decode cX0_init 123 = .ok (.invokestatic 56, 3) := by decide +kernel
theorem dX0_init_126 : decode cX0_init 126 = .ok (.aload_n 0, 1) := by decide +kernel
theorem dX0_init_127 : decode cX0_init 127 = .ok (.getfield 53, 3) := by decide +kernel
theorem dX0_init_130 : decode cX0_init 130 = .ok (.iconst (-1), 1) := by decide +kernel
theorem dX0_init_131 : decode cX0_init 131 = .ok (.invokestatic 56, 3) := by decide +kernel
theorem dX0_init_134 : decode cX0_init 134 = .ok (.return_, 1) := by decide +kernel
theorem dX0_become_0 : decode cX0_become 0 = .ok (.aload_n 1, 1) := by decide +kernel
theorem dX0_become_1 : decode cX0_become 1 = .ok (.getfield 9, 3) := by decide +kernel
theorem dX0_become_4 : decode cX0_become 4 = .ok (.iconst 0, 1) := by decide +kernel
theorem dX0_become_5 : decode cX0_become 5 = .ok (.aload_n 0, 1) := by decide +kernel
theorem dX0_become_6 : decode cX0_become 6 = .ok (.getfield 9, 3) := by decide +kernel
theorem dX0_become_9 : decode cX0_become 9 = .ok (.iconst 0, 1) := by decide +kernel
theorem dX0_become_10 : decode cX0_become 10 = .ok (.bipush 16, 2) := by decide +kernel
theorem dX0_become_12 : decode cX0_become 12 = .ok (.invokestatic 62, 3) := by decide +kernel
theorem dX0_become_15 : decode cX0_become 15 = .ok (.aload_n 1, 1) := by decide +kernel
theorem dX0_become_16 : decode cX0_become 16 = .ok (.getfield 13, 3) := by decide +kernel
theorem dX0_become_19 : decode cX0_become 19 = .ok (.iconst 0, 1) := by decide +kernel
theorem dX0_become_20 : decode cX0_become 20 = .ok (.aload_n 0, 1) := by decide +kernel
theorem dX0_become_21 : decode cX0_become 21 = .ok (.getfield 13, 3) := by decide +kernel
theorem dX0_become_24 : decode cX0_become 24 = .ok (.iconst 0, 1) := by decide +kernel
theorem dX0_become_25 : decode cX0_become 25 = .ok (.bipush 6, 2) := by decide +kernel
theorem dX0_become_27 : decode cX0_become 27 = .ok (.invokestatic 62, 3) := by decide +kernel
theorem dX0_become_30 : decode cX0_become 30 = .ok (.aload_n 0, 1) := by decide +kernel
theorem dX0_become_31 : decode cX0_become 31 = .ok (.aload_n 1, 1) := by decide +kernel
theorem dX0_become_32 : decode cX0_become 32 = .ok (.getfield 16, 3) := by decide +kernel
theorem dX0_become_35 : decode cX0_become 35 = .ok (.putfield 16, 3) := by decide +kernel
theorem dX0_become_38 : decode cX0_become 38 = .ok (.aload_n 0, 1) := by decide +kernel
theorem dX0_become_39 : decode cX0_become 39 = .ok (.aload_n 1, 1) := by decide +kernel
theorem dX0_become_40 : decode cX0_become 40 = .ok (.getfield 20, 3) := by decide +kernel
theorem dX0_become_43 : decode cX0_become 43 = .ok (.putfield 20, 3) := by decide +kernel
theorem dX0_become_46 : decode cX0_become 46 = .ok (.aload_n 0, 1) := by decide +kernel
theorem dX0_become_47 : decode cX0_become 47 = .ok (.aload_n 1, 1) := by decide +kernel
theorem dX0_become_48 : decode cX0_become 48 = .ok (.getfield 23, 3) := by decide +kernel
theorem dX0_become_51 : decode cX0_become 51 = .ok (.putfield 23, 3) := by decide +kernel
theorem dX0_become_54 : decode cX0_become 54 = .ok (.aload_n 0, 1) := by decide +kernel
theorem dX0_become_55 : decode cX0_become 55 = .ok (.aload_n 1, 1) := by decide +kernel
theorem dX0_become_56 : decode cX0_become 56 = .ok (.getfield 26, 3) := by decide +kernel
theorem dX0_become_59 : decode cX0_become 59 = .ok (.putfield 26, 3) := by decide +kernel
theorem dX0_become_62 : decode cX0_become 62 = .ok (.aload_n 0, 1) := by decide +kernel
theorem dX0_become_63 : decode cX0_become 63 = .ok (.aload_n 1, 1) := by decide +kernel
theorem dX0_become_64 : decode cX0_become 64 = .ok (.getfield 29, 3) := by decide +kernel
theorem dX0_become_67 : decode cX0_become 67 = .ok (.putfield 29, 3) := by decide +kernel
theorem dX0_become_70 : decode cX0_become 70 = .ok (.aload_n 1, 1) := by decide +kernel
theorem dX0_become_71 : decode cX0_become 71 = .ok (.getfield 32, 3) := by decide +kernel
theorem dX0_become_74 : decode cX0_become 74 = .ok (.iconst 0, 1) := by decide +kernel
theorem dX0_become_75 : decode cX0_become 75 = .ok (.aload_n 0, 1) := by decide +kernel
theorem dX0_become_76 : decode cX0_become 76 = .ok (.getfield 32, 3) := by decide +kernel
theorem dX0_become_79 : decode cX0_become 79 = .ok (.iconst 0, 1) := by decide +kernel
theorem dX0_become_80 : decode cX0_become 80 = .ok (.bipush 8, 2) := by decide +kernel
theorem dX0_become_82 : decode cX0_become 82 = .ok (.invokestatic 62, 3) := by decide +kernel
theorem dX0_become_85 : decode cX0_become 85 = .ok (.aload_n 1, 1) := by decide +kernel
theorem dX0_become_86 : decode cX0_become 86 = .ok (.getfield 35, 3) := by decide +kernel
theorem dX0_become_89 : decode cX0_become 89 = .ok (.iconst 0, 1) := by decide +kernel
theorem dX0_become_90 : decode cX0_become 90 = .ok (.aload_n 0, 1) := by decide +kernel
theorem dX0_become_91 : decode cX0_become 91 = .ok (.getfield 35, 3) := by decide +kernel
theorem dX0_become_94 : decode cX0_become 94 = .ok (.iconst 0, 1) := by decide +kernel
theorem dX0_become_95 : decode cX0_become 95 = .ok (.bipush 8, 2) := by decide +kernel
theorem dX0_become_97 : decode cX0_become 97 = .ok (.invokestatic 62, 3) := by decide +kernel
theorem dX0_become_100 : decode cX0_become 100 = .ok (.aload_n 1, 1) := by decide +kernel
theorem dX0_become_101 : decode cX0_become 101 = .ok (.getfield 38, 3) := by decide +kernel
theorem dX0_become_104 : decode cX0_become 104 = .ok (.iconst 0, 1) := by decide +kernel
theorem dX0_become_105 : decode cX0_become 105 = .ok (.aload_n 0, 1) := by decide +kernel
theorem dX0_become_106 : decode cX0_become 106 = .ok (.getfield 38, 3) := by decide +kernel
theorem dX0_become_109 : decode cX0_become 109 = .ok (.iconst 0, 1) := by decide +kernel
theorem dX0_become_110 : decode cX0_become 110 = .ok (.bipush 8, 2) := by decide +kernel
theorem dX0_become_112 : decode cX0_become 112 = .ok (.invokestatic 62, 3) := by decide +kernel
theorem dX0_become_115 : decode cX0_become 115 = .ok (.aload_n 1, 1) := by decide +kernel
theorem dX0_become_116 : decode cX0_become 116 = .ok (.getfield 41, 3) := by decide +kernel
theorem dX0_become_119 : decode cX0_become 119 = .ok (.iconst 0, 1) := by decide +kernel
theorem dX0_become_120 : decode cX0_become 120 = .ok (.aload_n 0, 1) := by decide +kernel
theorem dX0_become_121 : decode cX0_become 121 = .ok (.getfield 41, 3) := by decide +kernel
theorem dX0_become_124 : decode cX0_become 124 = .ok (.iconst 0, 1) := by decide +kernel
theorem dX0_become_125 : decode cX0_become 125 = .ok (.bipush 8, 2) := by decide +kernel
theorem dX0_become_127 : decode cX0_become 127 = .ok (.invokestatic 62, 3) := by decide +kernel
theorem dX0_become_130 : decode cX0_become 130 = .ok (.aload_n 1, 1) := by decide +kernel
theorem dX0_become_131 : decode cX0_become 131 = .ok (.getfield 44, 3) := by decide +kernel
theorem dX0_become_134 : decode cX0_become 134 = .ok (.iconst 0, 1) := by decide +kernel
theorem dX0_become_135 : decode cX0_become 135 = .ok (.aload_n 0, 1) := by decide +kernel
theorem dX0_become_136 : decode cX0_become 136 = .ok (.getfield 44, 3) := by decide +kernel
theorem dX0_become_139 : decode cX0_become 139 = .ok (.iconst 0, 1) := by decide +kernel
theorem dX0_become_140 : decode cX0_become 140 = .ok (.bipush 8, 2) := by decide +kernel
theorem dX0_become_142 : decode cX0_become 142 = .ok (.invokestatic 62, 3) := by decide +kernel
theorem dX0_become_145 : decode cX0_become 145 = .ok (.aload_n 1, 1) := by decide +kernel
theorem dX0_become_146 : decode cX0_become 146 = .ok (.getfield 47, 3) := by decide +kernel
theorem dX0_become_149 : decode cX0_become 149 = .ok (.iconst 0, 1) := by decide +kernel
theorem dX0_become_150 : decode cX0_become 150 = .ok (.aload_n 0, 1) := by decide +kernel
theorem dX0_become_151 : decode cX0_become 151 = .ok (.getfield 47, 3) := by decide +kernel
theorem dX0_become_154 : decode cX0_become 154 = .ok (.iconst 0, 1) := by decide +kernel
theorem dX0_become_155 : decode cX0_become 155 = .ok (.bipush 8, 2) := by decide +kernel
theorem dX0_become_157 : decode cX0_become 157 = .ok (.invokestatic 62, 3) := by decide +kernel
theorem dX0_become_160 : decode cX0_become 160 = .ok (.aload_n 0, 1) := by decide +kernel
theorem dX0_become_161 : decode cX0_become 161 = .ok (.aload_n 1, 1) := by decide +kernel
theorem dX0_become_162 : decode cX0_become 162 = .ok (.getfield 50, 3) := by decide +kernel
theorem dX0_become_165 : decode cX0_become 165 = .ok (.putfield 50, 3) := by decide +kernel
theorem dX0_become_168 : decode cX0_become 168 = .ok (.aload_n 1, 1) := by decide +kernel
theorem dX0_become_169 : decode cX0_become 169 = .ok (.getfield 53, 3) := by decide +kernel
theorem dX0_become_172 : decode cX0_become 172 = .ok (.iconst 0, 1) := by decide +kernel
theorem dX0_become_173 : decode cX0_become 173 = .ok (.aload_n 0, 1) := by decide +kernel
theorem dX0_become_174 : decode cX0_become 174 = .ok (.getfield 53, 3) := by decide +kernel
theorem dX0_become_177 : decode cX0_become 177 = .ok (.iconst 0, 1) := by decide +kernel
theorem dX0_become_178 : decode cX0_become 178 = .ok (.bipush 10, 2) := by decide +kernel
theorem dX0_become_180 : decode cX0_become 180 = .ok (.invokestatic 62, 3) := by decide +kernel
theorem dX0_become_183 : decode cX0_become 183 = .ok (.return_, 1) := by decide +kernel
theorem dX0_isFull_0 : decode cX0_isFull 0 = .ok (.aload_n 0, 1) := by decide +kernel
theorem dX0_isFull_1 : decode cX0_isFull 1 = .ok (.getfield 29, 3) := by decide +kernel
theorem dX0_isFull_4 : decode cX0_isFull 4 = .ok (.bipush 8, 2) := by decide +kernel
theorem dX0_isFull_6 : decode cX0_isFull 6 = .ok (.if_icmp .lt 7, 3) := by decide +kernel
theorem dX0_isFull_9 : decode cX0_isFull 9 = .ok (.iconst 1, 1) := by decide +kernel
theorem dX0_isFull_10 : decode cX0_isFull 10 = .ok (.goto 4, 3) := by decide +kernel
theorem dX0_isFull_13 : decode cX0_isFull 13 = .ok (.iconst 0, 1) := by decide +kernel
theorem dX0_isFull_14 : decode cX0_isFull 14 = .ok (.ireturn, 1) := by decide +kernel
theorem dX0_add_0 : decode cX0_add 0 = .ok (.aload_n 0, 1) := by decide +kernel
theorem dX0_add_1 : decode cX0_add 1 = .ok (.invokevirtual 68, 3) := by decide +kernel
theorem dX0_add_4 : decode cX0_add 4 = .ok (.ifCond .eq 5, 3) := by decide +kernel
theorem dX0_add_7 : decode cX0_add 7 = .ok (.iconst (-1), 1) := by decide +kernel
theorem dX0_add_8 : decode cX0_add 8 = .ok (.ireturn, 1) := by decide +kernel
theorem dX0_add_9 : decode cX0_add 9 = .ok (.aload_n 0, 1) := by decide +kernel
theorem dX0_add_10 : decode cX0_add 10 = .ok (.getfield 32, 3) := by decide +kernel
theorem dX0_add_13 : decode cX0_add 13 = .ok (.aload_n 0, 1) := by decide +kernel
theorem dX0_add_14 : decode cX0_add 14 = .ok (.getfield 29, 3) := by decide +kernel
theorem dX0_add_17 : decode cX0_add 17 = .ok (.iload_n 1, 1) := by decide +kernel
theorem dX0_add_18 : decode cX0_add 18 = .ok (.iastore, 1) := by decide +kernel
theorem dX0_add_19 : decode cX0_add 19 = .ok (.aload_n 0, 1) := by decide +kernel
theorem dX0_add_20 : decode cX0_add 20 = .ok (.getfield 35, 3) := by decide +kernel
theorem dX0_add_23 : decode cX0_add 23 = .ok (.aload_n 0, 1) := by decide +kernel
theorem dX0_add_24 : decode cX0_add 24 = .ok (.getfield 29, 3) := by decide +kernel
theorem dX0_add_27 : decode cX0_add 27 = .ok (.iload_n 2, 1) := by decide +kernel
theorem dX0_add_28 : decode cX0_add 28 = .ok (.iastore, 1) := by decide +kernel
theorem dX0_add_29 : decode cX0_add 29 = .ok (.aload_n 0, 1) := by decide +kernel
theorem dX0_add_30 : decode cX0_add 30 = .ok (.getfield 38, 3) := by decide +kernel
theorem dX0_add_33 : decode cX0_add 33 = .ok (.aload_n 0, 1) := by decide +kernel
theorem dX0_add_34 : decode cX0_add 34 = .ok (.getfield 29, 3) := by decide +kernel
theorem dX0_add_37 : decode cX0_add 37 = .ok (.bipush 10, 2) := by decide +kernel
theorem dX0_add_39 : decode cX0_add 39 = .ok (.iastore, 1) := by decide +kernel
theorem dX0_add_40 : decode cX0_add 40 = .ok (.aload_n 0, 1) := by decide +kernel
theorem dX0_add_41 : decode cX0_add 41 = .ok (.getfield 41, 3) := by decide +kernel
theorem dX0_add_44 : decode cX0_add 44 = .ok (.aload_n 0, 1) := by decide +kernel
theorem dX0_add_45 : decode cX0_add 45 = .ok (.getfield 29, 3) := by decide +kernel
theorem dX0_add_48 : decode cX0_add 48 = .ok (.iload_n 2, 1) := by decide +kernel
theorem dX0_add_49 : decode cX0_add 49 = .ok (.iastore, 1) := by decide +kernel
theorem dX0_add_50 : decode cX0_add 50 = .ok (.aload_n 0, 1) := by decide +kernel
theorem dX0_add_51 : decode cX0_add 51 = .ok (.getfield 44, 3) := by decide +kernel
theorem dX0_add_54 : decode cX0_add 54 = .ok (.aload_n 0, 1) := by decide +kernel
theorem dX0_add_55 : decode cX0_add 55 = .ok (.getfield 29, 3) := by decide +kernel
theorem dX0_add_58 : decode cX0_add 58 = .ok (.iconst 0, 1) := by decide +kernel
theorem dX0_add_59 : decode cX0_add 59 = .ok (.iastore, 1) := by decide +kernel
theorem dX0_add_60 : decode cX0_add 60 = .ok (.aload_n 0, 1) := by decide +kernel
theorem dX0_add_61 : decode cX0_add 61 = .ok (.getfield 47, 3) := by decide +kernel
theorem dX0_add_64 : decode cX0_add 64 = .ok (.aload_n 0, 1) := by decide +kernel
theorem dX0_add_65 : decode cX0_add 65 = .ok (.getfield 29, 3) := by decide +kernel
theorem dX0_add_68 : decode cX0_add 68 = .ok (.iconst 0, 1) := by decide +kernel
theorem dX0_add_69 : decode cX0_add 69 = .ok (.iastore, 1) := by decide +kernel
theorem dX0_add_70 : decode cX0_add 70 = .ok (.aload_n 0, 1) := by decide +kernel
theorem dX0_add_71 : decode cX0_add 71 = .ok (.dup, 1) := by decide +kernel
theorem dX0_add_72 : decode cX0_add 72 = .ok (.getfield 29, 3) := by decide +kernel
theorem dX0_add_75 : decode cX0_add 75 = .ok (.iconst 1, 1) := by decide +kernel
theorem dX0_add_76 : decode cX0_add 76 = .ok (.iadd, 1) := by decide +kernel
theorem dX0_add_77 : decode cX0_add 77 = .ok (.putfield 29, 3) := by decide +kernel
theorem dX0_add_80 : decode cX0_add 80 = .ok (.aload_n 0, 1) := by decide +kernel
theorem dX0_add_81 : decode cX0_add 81 = .ok (.getfield 29, 3) := by decide +kernel
theorem dX0_add_84 : decode cX0_add 84 = .ok (.iconst 1, 1) := by decide +kernel
theorem dX0_add_85 : decode cX0_add 85 = .ok (.isub, 1) := by decide +kernel
theorem dX0_add_86 : decode cX0_add 86 = .ok (.ireturn, 1) := by decide +kernel
theorem dX0_sendHome_0 : decode cX0_sendHome 0 = .ok (.iconst 0, 1) := by decide +kernel
theorem dX0_sendHome_1 : decode cX0_sendHome 1 = .ok (.istore_n 2, 1) := by decide +kernel
theorem dX0_sendHome_2 : decode cX0_sendHome 2 = .ok (.iload_n 2, 1) := by decide +kernel
theorem dX0_sendHome_3 : decode cX0_sendHome 3 = .ok (.aload_n 0, 1) := by decide +kernel
theorem dX0_sendHome_4 : decode cX0_sendHome 4 = .ok (.getfield 29, 3) := by decide +kernel
theorem dX0_sendHome_7 : decode cX0_sendHome 7 = .ok (.if_icmp .ge 25, 3) := by decide +kernel
theorem dX0_sendHome_10 : decode cX0_sendHome 10 = .ok (.iload_n 1, 1) := by decide +kernel
theorem dX0_sendHome_11 : decode cX0_sendHome 11 = .ok (.iload_n 2, 1) := by decide +kernel
theorem dX0_sendHome_12 : decode cX0_sendHome 12 = .ok (.ishr, 1) := by decide +kernel
theorem dX0_sendHome_13 : decode cX0_sendHome 13 = .ok (.iconst 1, 1) := by decide +kernel
theorem dX0_sendHome_14 : decode cX0_sendHome 14 = .ok (.iand, 1) := by decide +kernel
theorem dX0_sendHome_15 : decode cX0_sendHome 15 = .ok (.iconst 1, 1) := by decide +kernel
theorem dX0_sendHome_16 : decode cX0_sendHome 16 = .ok (.if_icmp .ne 10, 3) := by decide +kernel
theorem dX0_sendHome_19 : decode cX0_sendHome 19 = .ok (.aload_n 0, 1) := by decide +kernel
theorem dX0_sendHome_20 : decode cX0_sendHome 20 = .ok (.getfield 47, 3) := by decide +kernel
theorem dX0_sendHome_23 : decode cX0_sendHome 23 = .ok (.iload_n 2, 1) := by decide +kernel
theorem dX0_sendHome_24 : decode cX0_sendHome 24 = .ok (.iconst 1, 1) := by decide +kernel
theorem dX0_sendHome_25 : decode cX0_sendHome 25 = .ok (.iastore, 1) := by decide +kernel
theorem dX0_sendHome_26 : decode cX0_sendHome 26 = .ok (.iinc 2 1, 3) := by decide +kernel
theorem dX0_sendHome_29 : decode cX0_sendHome 29 = .ok (.goto (-27), 3) := by decide +kernel
theorem dX0_sendHome_32 : decode cX0_sendHome 32 = .ok (.return_, 1) := by decide +kernel
theorem dX0_trait_0 : decode cX0_trait 0 = .ok (.iload_n 1, 1) := by decide +kernel
theorem dX0_trait_1 : decode cX0_trait 1 = .ok (.tableswitch 60 0 4 #[35, 40, 45, 50, 55], 35) := by decide +kernel
theorem dX0_trait_36 : decode cX0_trait 36 = .ok (.aload_n 0, 1) := by decide +kernel
theorem dX0_trait_37 : decode cX0_trait 37 = .ok (.getfield 32, 3) := by decide +kernel
theorem dX0_trait_40 : decode cX0_trait 40 = .ok (.areturn, 1) := by decide +kernel
theorem dX0_trait_41 : decode cX0_trait 41 = .ok (.aload_n 0, 1) := by decide +kernel
theorem dX0_trait_42 : decode cX0_trait 42 = .ok (.getfield 35, 3) := by decide +kernel
theorem dX0_trait_45 : decode cX0_trait 45 = .ok (.areturn, 1) := by decide +kernel
theorem dX0_trait_46 : decode cX0_trait 46 = .ok (.aload_n 0, 1) := by decide +kernel
theorem dX0_trait_47 : decode cX0_trait 47 = .ok (.getfield 38, 3) := by decide +kernel
theorem dX0_trait_50 : decode cX0_trait 50 = .ok (.areturn, 1) := by decide +kernel
theorem dX0_trait_51 : decode cX0_trait 51 = .ok (.aload_n 0, 1) := by decide +kernel
theorem dX0_trait_52 : decode cX0_trait 52 = .ok (.getfield 41, 3) := by decide +kernel
theorem dX0_trait_55 : decode cX0_trait 55 = .ok (.areturn, 1) := by decide +kernel
theorem dX0_trait_56 : decode cX0_trait 56 = .ok (.aload_n 0, 1) := by decide +kernel
theorem dX0_trait_57 : decode cX0_trait 57 = .ok (.getfield 44, 3) := by decide +kernel
theorem dX0_trait_60 : decode cX0_trait 60 = .ok (.areturn, 1) := by decide +kernel
theorem dX0_trait_61 : decode cX0_trait 61 = .ok (.aload_n 0, 1) := by decide +kernel
theorem dX0_trait_62 : decode cX0_trait 62 = .ok (.getfield 47, 3) := by decide +kernel
theorem dX0_trait_65 : decode cX0_trait 65 = .ok (.areturn, 1) := by decide +kernel
theorem dX0_needs_0 : decode cX0_needs 0 = .ok (.aload_n 0, 1) := by decide +kernel
theorem dX0_needs_1 : decode cX0_needs 1 = .ok (.getfield 32, 3) := by decide +kernel
theorem dX0_needs_4 : decode cX0_needs 4 = .ok (.iload_n 1, 1) := by decide +kernel
theorem dX0_needs_5 : decode cX0_needs 5 = .ok (.iaload, 1) := by decide +kernel
theorem dX0_needs_6 : decode cX0_needs 6 = .ok (.aload_n 0, 1) := by decide +kernel
theorem dX0_needs_7 : decode cX0_needs 7 = .ok (.getfield 38, 3) := by decide +kernel
theorem dX0_needs_10 : decode cX0_needs 10 = .ok (.iload_n 1, 1) := by decide +kernel
theorem dX0_needs_11 : decode cX0_needs 11 = .ok (.iaload, 1) := by decide +kernel
theorem dX0_needs_12 : decode cX0_needs 12 = .ok (.aload_n 0, 1) := by decide +kernel
theorem dX0_needs_13 : decode cX0_needs 13 = .ok (.getfield 44, 3) := by decide +kernel
theorem dX0_needs_16 : decode cX0_needs 16 = .ok (.iload_n 1, 1) := by decide +kernel
theorem dX0_needs_17 : decode cX0_needs 17 = .ok (.iaload, 1) := by decide +kernel
theorem dX0_needs_18 : decode cX0_needs 18 = .ok (.aload_n 0, 1) := by decide +kernel
theorem dX0_needs_19 : decode cX0_needs 19 = .ok (.getfield 26, 3) := by decide +kernel
theorem dX0_needs_22 : decode cX0_needs 22 = .ok (.invokestatic 72, 3) := by decide +kernel
theorem dX0_needs_25 : decode cX0_needs 25 = .ok (.ireturn, 1) := by decide +kernel
theorem dX0_placeNow_0 : decode cX0_placeNow 0 = .ok (.aload_n 0, 1) := by decide +kernel
theorem dX0_placeNow_1 : decode cX0_placeNow 1 = .ok (.getfield 26, 3) := by decide +kernel
theorem dX0_placeNow_4 : decode cX0_placeNow 4 = .ok (.bipush 6, 2) := by decide +kernel
theorem dX0_placeNow_6 : decode cX0_placeNow 6 = .ok (.irem, 1) := by decide +kernel
theorem dX0_placeNow_7 : decode cX0_placeNow 7 = .ok (.ireturn, 1) := by decide +kernel
theorem dX0_measureNow_0 : decode cX0_measureNow 0 = .ok (.aload_n 0, 1) := by decide +kernel
theorem dX0_measureNow_1 : decode cX0_measureNow 1 = .ok (.getfield 23, 3) := by decide +kernel
theorem dX0_measureNow_4 : decode cX0_measureNow 4 = .ok (.iconst 1, 1) := by decide +kernel
theorem dX0_measureNow_5 : decode cX0_measureNow 5 = .ok (.if_icmp .ne 8, 3) := by decide +kernel
theorem dX0_measureNow_8 : decode cX0_measureNow 8 = .ok (.bipush 36, 2) := by decide +kernel
theorem dX0_measureNow_10 : decode cX0_measureNow 10 = .ok (.goto 12, 3) := by decide +kernel
theorem dX0_measureNow_13 : decode cX0_measureNow 13 = .ok (.aload_n 0, 1) := by decide +kernel
theorem dX0_measureNow_14 : decode cX0_measureNow 14 = .ok (.getfield 13, 3) := by decide +kernel
theorem dX0_measureNow_17 : decode cX0_measureNow 17 = .ok (.aload_n 0, 1) := by decide +kernel
theorem dX0_measureNow_18 : decode cX0_measureNow 18 = .ok (.invokevirtual 78, 3) := by decide +kernel
theorem dX0_measureNow_21 : decode cX0_measureNow 21 = .ok (.iaload, 1) := by decide +kernel
theorem dX0_measureNow_22 : decode cX0_measureNow 22 = .ok (.ireturn, 1) := by decide +kernel
theorem dX0_width_0 : decode cX0_width 0 = .ok (.iconst 0, 1) := by decide +kernel
theorem dX0_width_1 : decode cX0_width 1 = .ok (.aload_n 0, 1) := by decide +kernel
theorem dX0_width_2 : decode cX0_width 2 = .ok (.getfield 9, 3) := by decide +kernel
theorem dX0_width_5 : decode cX0_width 5 = .ok (.iload_n 1, 1) := by decide +kernel
theorem dX0_width_6 : decode cX0_width 6 = .ok (.iaload, 1) := by decide +kernel
theorem dX0_width_7 : decode cX0_width 7 = .ok (.iload_n 2, 1) := by decide +kernel
theorem dX0_width_8 : decode cX0_width 8 = .ok (.iadd, 1) := by decide +kernel
theorem dX0_width_9 : decode cX0_width 9 = .ok (.bipush 26, 2) := by decide +kernel
theorem dX0_width_11 : decode cX0_width 11 = .ok (.isub, 1) := by decide +kernel
theorem dX0_width_12 : decode cX0_width 12 = .ok (.invokestatic 82, 3) := by decide +kernel
theorem dX0_width_15 : decode cX0_width 15 = .ok (.ireturn, 1) := by decide +kernel
theorem dX0_reachable_0 : decode cX0_reachable 0 = .ok (.aload_n 0, 1) := by decide +kernel
theorem dX0_reachable_1 : decode cX0_reachable 1 = .ok (.iload_n 1, 1) := by decide +kernel
theorem dX0_reachable_2 : decode cX0_reachable 2 = .ok (.invokevirtual 88, 3) := by decide +kernel
theorem dX0_reachable_5 : decode cX0_reachable 5 = .ok (.istore_n 3, 1) := by decide +kernel
theorem dX0_reachable_6 : decode cX0_reachable 6 = .ok (.iconst 1, 1) := by decide +kernel
theorem dX0_reachable_7 : decode cX0_reachable 7 = .ok (.aload_n 0, 1) := by decide +kernel
theorem dX0_reachable_8 : decode cX0_reachable 8 = .ok (.getfield 35, 3) := by decide +kernel
theorem dX0_reachable_11 : decode cX0_reachable 11 = .ok (.iload_n 1, 1) := by decide +kernel
theorem dX0_reachable_12 : decode cX0_reachable 12 = .ok (.iaload, 1) := by decide +kernel
theorem dX0_reachable_13 : decode cX0_reachable 13 = .ok (.ishl, 1) := by decide +kernel
theorem dX0_reachable_14 : decode cX0_reachable 14 = .ok (.istore 4, 2) := by decide +kernel
theorem dX0_reachable_16 : decode cX0_reachable 16 = .ok (.aload_n 0, 1) := by decide +kernel
theorem dX0_reachable_17 : decode cX0_reachable 17 = .ok (.getfield 35, 3) := by decide +kernel
theorem dX0_reachable_20 : decode cX0_reachable 20 = .ok (.iload_n 1, 1) := by decide +kernel
theorem dX0_reachable_21 : decode cX0_reachable 21 = .ok (.iaload, 1) := by decide +kernel
theorem dX0_reachable_22 : decode cX0_reachable 22 = .ok (.iconst 1, 1) := by decide +kernel
theorem dX0_reachable_23 : decode cX0_reachable 23 = .ok (.iadd, 1) := by decide +kernel
theorem dX0_reachable_24 : decode cX0_reachable 24 = .ok (.istore 5, 2) := by decide +kernel
theorem dX0_reachable_26 : decode cX0_reachable 26 = .ok (.iload 5, 2) := by decide +kernel
theorem dX0_reachable_28 : decode cX0_reachable 28 = .ok (.bipush 16, 2) := by decide +kernel
theorem dX0_reachable_30 : decode cX0_reachable 30 = .ok (.if_icmp .ge 29, 3) := by decide +kernel
theorem dX0_reachable_33 : decode cX0_reachable 33 = .ok (.aload_n 0, 1) := by decide +kernel
theorem dX0_reachable_34 : decode cX0_reachable 34 = .ok (.iload 5, 2) := by decide +kernel
theorem dX0_reachable_36 : decode cX0_reachable 36 = .ok (.iload_n 2, 1) := by decide +kernel
theorem dX0_reachable_37 : decode cX0_reachable 37 = .ok (.invokevirtual 91, 3) := by decide +kernel
theorem dX0_reachable_40 : decode cX0_reachable 40 = .ok (.iload_n 3, 1) := by decide +kernel
theorem dX0_reachable_41 : decode cX0_reachable 41 = .ok (.if_icmp .lt 18, 3) := by decide +kernel
theorem dX0_reachable_44 : decode cX0_reachable 44 = .ok (.iload 4, 2) := by decide +kernel
theorem dX0_reachable_46 : decode cX0_reachable 46 = .ok (.iconst 1, 1) := by decide +kernel
theorem dX0_reachable_47 : decode cX0_reachable 47 = .ok (.iload 5, 2) := by decide +kernel
theorem dX0_reachable_49 : decode cX0_reachable 49 = .ok (.ishl, 1) := by decide +kernel
theorem dX0_reachable_50 : decode cX0_reachable 50 = .ok (.ior, 1) := by decide +kernel
theorem dX0_reachable_51 : decode cX0_reachable 51 = .ok (.istore 4, 2) := by decide +kernel
theorem dX0_reachable_53 : decode cX0_reachable 53 = .ok (.iinc 5 1, 3) := by decide +kernel
theorem dX0_reachable_56 : decode cX0_reachable 56 = .ok (.goto (-30), 3) := by decide +kernel
theorem dX0_reachable_59 : decode cX0_reachable 59 = .ok (.aload_n 0, 1) := by decide +kernel
theorem dX0_reachable_60 : decode cX0_reachable 60 = .ok (.getfield 35, 3) := by decide +kernel
theorem dX0_reachable_63 : decode cX0_reachable 63 = .ok (.iload_n 1, 1) := by decide +kernel
theorem dX0_reachable_64 : decode cX0_reachable 64 = .ok (.iaload, 1) := by decide +kernel
theorem dX0_reachable_65 : decode cX0_reachable 65 = .ok (.iconst 1, 1) := by decide +kernel
theorem dX0_reachable_66 : decode cX0_reachable 66 = .ok (.isub, 1) := by decide +kernel
theorem dX0_reachable_67 : decode cX0_reachable 67 = .ok (.istore 5, 2) := by decide +kernel
theorem dX0_reachable_69 : decode cX0_reachable 69 = .ok (.iload 5, 2) := by decide +kernel
theorem dX0_reachable_71 : decode cX0_reachable 71 = .ok (.ifCond .lt 29, 3) := by decide +kernel
theorem dX0_reachable_74 : decode cX0_reachable 74 = .ok (.aload_n 0, 1) := by decide +kernel
theorem dX0_reachable_75 : decode cX0_reachable 75 = .ok (.iload 5, 2) := by decide +kernel
theorem dX0_reachable_77 : decode cX0_reachable 77 = .ok (.iload_n 2, 1) := by decide +kernel
theorem dX0_reachable_78 : decode cX0_reachable 78 = .ok (.invokevirtual 91, 3) := by decide +kernel
theorem dX0_reachable_81 : decode cX0_reachable 81 = .ok (.iload_n 3, 1) := by decide +kernel
theorem dX0_reachable_82 : decode cX0_reachable 82 = .ok (.if_icmp .lt 18, 3) := by decide +kernel
theorem dX0_reachable_85 : decode cX0_reachable 85 = .ok (.iload 4, 2) := by decide +kernel
theorem dX0_reachable_87 : decode cX0_reachable 87 = .ok (.iconst 1, 1) := by decide +kernel
theorem dX0_reachable_88 : decode cX0_reachable 88 = .ok (.iload 5, 2) := by decide +kernel
theorem dX0_reachable_90 : decode cX0_reachable 90 = .ok (.ishl, 1) := by decide +kernel
theorem dX0_reachable_91 : decode cX0_reachable 91 = .ok (.ior, 1) := by decide +kernel
theorem dX0_reachable_92 : decode cX0_reachable 92 = .ok (.istore 4, 2) := by decide +kernel
theorem dX0_reachable_94 : decode cX0_reachable 94 = .ok (.iinc 5 (-1), 3) := by decide +kernel
theorem dX0_reachable_97 : decode cX0_reachable 97 = .ok (.goto (-28), 3) := by decide +kernel
theorem dX0_reachable_100 : decode cX0_reachable 100 = .ok (.iload 4, 2) := by decide +kernel
theorem dX0_reachable_102 : decode cX0_reachable 102 = .ok (.ireturn, 1) := by decide +kernel
theorem dX0_canReach_0 : decode cX0_canReach 0 = .ok (.aload_n 0, 1) := by decide +kernel
theorem dX0_canReach_1 : decode cX0_canReach 1 = .ok (.iload_n 1, 1) := by decide +kernel
theorem dX0_canReach_2 : decode cX0_canReach 2 = .ok (.iload_n 3, 1) := by decide +kernel
theorem dX0_canReach_3 : decode cX0_canReach 3 = .ok (.invokevirtual 94, 3) := by decide +kernel
theorem dX0_canReach_6 : decode cX0_canReach 6 = .ok (.iload_n 2, 1) := by decide +kernel
theorem dX0_canReach_7 : decode cX0_canReach 7 = .ok (.ishr, 1) := by decide +kernel
theorem dX0_canReach_8 : decode cX0_canReach 8 = .ok (.iconst 1, 1) := by decide +kernel
theorem dX0_canReach_9 : decode cX0_canReach 9 = .ok (.iand, 1) := by decide +kernel
theorem dX0_canReach_10 : decode cX0_canReach 10 = .ok (.iconst 1, 1) := by decide +kernel
theorem dX0_canReach_11 : decode cX0_canReach 11 = .ok (.if_icmp .ne 7, 3) := by decide +kernel
theorem dX0_canReach_14 : decode cX0_canReach 14 = .ok (.iconst 1, 1) := by decide +kernel
theorem dX0_canReach_15 : decode cX0_canReach 15 = .ok (.goto 4, 3) := by decide +kernel
theorem dX0_canReach_18 : decode cX0_canReach 18 = .ok (.iconst 0, 1) := by decide +kernel
theorem dX0_canReach_19 : decode cX0_canReach 19 = .ok (.ireturn, 1) := by decide +kernel
theorem dX0_measuresToAim_0 : decode cX0_measuresToAim 0 = .ok (.iconst 0, 1) := by decide +kernel
theorem dX0_measuresToAim_1 : decode cX0_measuresToAim 1 = .ok (.istore_n 2, 1) := by decide +kernel
theorem dX0_measuresToAim_2 : decode cX0_measuresToAim 2 = .ok (.bipush 16, 2) := by decide +kernel
theorem dX0_measuresToAim_4 : decode cX0_measuresToAim 4 = .ok (.istore_n 3, 1) := by decide +kernel
theorem dX0_measuresToAim_5 : decode cX0_measuresToAim 5 = .ok (.iload_n 3, 1) := by decide +kernel
theorem dX0_measuresToAim_6 : decode cX0_measuresToAim 6 = .ok (.bipush 36, 2) := by decide +kernel
theorem dX0_measuresToAim_8 : decode cX0_measuresToAim 8 = .ok (.if_icmp .gt 27, 3) := by decide +kernel
theorem dX0_measuresToAim_11 : decode cX0_measuresToAim 11 = .ok (.aload_n 0, 1) := by decide +kernel
theorem dX0_measuresToAim_12 : decode cX0_measuresToAim 12 = .ok (.iload_n 1, 1) := by decide +kernel
theorem dX0_measuresToAim_13 : decode cX0_measuresToAim 13 = .ok (.aload_n 0, 1) := by decide +kernel
theorem dX0_measuresToAim_14 : decode cX0_measuresToAim 14 = .ok (.getfield 41, 3) := by decide +kernel
theorem dX0_measuresToAim_17 : decode cX0_measuresToAim 17 = .ok (.iload_n 1, 1) := by decide +kernel
theorem dX0_measuresToAim_18 : decode cX0_measuresToAim 18 = .ok (.iaload, 1) := by decide +kernel
theorem dX0_measuresToAim_19 : decode cX0_measuresToAim 19 = .ok (.iload_n 3, 1) := by decide +kernel
theorem dX0_measuresToAim_20 : decode cX0_measuresToAim 20 = .ok (.invokevirtual 97, 3) := by decide +kernel
theorem dX0_measuresToAim_23 : decode cX0_measuresToAim 23 = .ok (.ifCond .eq 6, 3) := by decide +kernel
theorem dX0_measuresToAim_26 : decode cX0_measuresToAim 26 = .ok (.iinc 2 1, 3) := by decide +kernel
theorem dX0_measuresToAim_29 : decode cX0_measuresToAim 29 = .ok (.iinc 3 1, 3) := by decide +kernel
theorem dX0_measuresToAim_32 : decode cX0_measuresToAim 32 = .ok (.goto (-27), 3) := by decide +kernel
theorem dX0_measuresToAim_35 : decode cX0_measuresToAim 35 = .ok (.iload_n 2, 1) := by decide +kernel
theorem dX0_measuresToAim_36 : decode cX0_measuresToAim 36 = .ok (.ireturn, 1) := by decide +kernel
theorem dX0_passHours_0 : decode cX0_passHours 0 = .ok (.iconst 0, 1) := by decide +kernel
theorem dX0_passHours_1 : decode cX0_passHours 1 = .ok (.istore_n 2, 1) := by decide +kernel
theorem dX0_passHours_2 : decode cX0_passHours 2 = .ok (.iload_n 2, 1) := by decide +kernel
theorem dX0_passHours_3 : decode cX0_passHours 3 = .ok (.iload_n 1, 1) := by decide +kernel
theorem dX0_passHours_4 : decode cX0_passHours 4 = .ok (.if_icmp .ge 13, 3) := by decide +kernel
theorem dX0_passHours_7 : decode cX0_passHours 7 = .ok (.aload_n 0, 1) := by decide +kernel
theorem dX0_passHours_8 : decode cX0_passHours 8 = .ok (.invokevirtual 101, 3) := by decide +kernel
theorem dX0_passHours_11 : decode cX0_passHours 11 = .ok (.iinc 2 1, 3) := by decide +kernel
theorem dX0_passHours_14 : decode cX0_passHours 14 = .ok (.goto (-12), 3) := by decide +kernel
theorem dX0_passHours_17 : decode cX0_passHours 17 = .ok (.return_, 1) := by decide +kernel
theorem dX0_holdsFor_0 : decode cX0_holdsFor 0 = .ok (.iconst 0, 1) := by decide +kernel
theorem dX0_holdsFor_1 : decode cX0_holdsFor 1 = .ok (.istore_n 2, 1) := by decide +kernel
theorem dX0_holdsFor_2 : decode cX0_holdsFor 2 = .ok (.iload_n 2, 1) := by decide +kernel
theorem dX0_holdsFor_3 : decode cX0_holdsFor 3 = .ok (.iload_n 1, 1) := by decide +kernel
theorem dX0_holdsFor_4 : decode cX0_holdsFor 4 = .ok (.if_icmp .ge 20, 3) := by decide +kernel
theorem dX0_holdsFor_7 : decode cX0_holdsFor 7 = .ok (.aload_n 0, 1) := by decide +kernel
theorem dX0_holdsFor_8 : decode cX0_holdsFor 8 = .ok (.getfield 23, 3) := by decide +kernel
theorem dX0_holdsFor_11 : decode cX0_holdsFor 11 = .ok (.ifCond .ne 13, 3) := by decide +kernel
theorem dX0_holdsFor_14 : decode cX0_holdsFor 14 = .ok (.aload_n 0, 1) := by decide +kernel
theorem dX0_holdsFor_15 : decode cX0_holdsFor 15 = .ok (.invokevirtual 101, 3) := by decide +kernel
theorem dX0_holdsFor_18 : decode cX0_holdsFor 18 = .ok (.iinc 2 1, 3) := by decide +kernel
theorem dX0_holdsFor_21 : decode cX0_holdsFor 21 = .ok (.goto (-19), 3) := by decide +kernel
theorem dX0_holdsFor_24 : decode cX0_holdsFor 24 = .ok (.aload_n 0, 1) := by decide +kernel
theorem dX0_holdsFor_25 : decode cX0_holdsFor 25 = .ok (.getfield 23, 3) := by decide +kernel
theorem dX0_holdsFor_28 : decode cX0_holdsFor 28 = .ok (.ifCond .ne 7, 3) := by decide +kernel
theorem dX0_holdsFor_31 : decode cX0_holdsFor 31 = .ok (.iconst 1, 1) := by decide +kernel
theorem dX0_holdsFor_32 : decode cX0_holdsFor 32 = .ok (.goto 4, 3) := by decide +kernel
theorem dX0_holdsFor_35 : decode cX0_holdsFor 35 = .ok (.iconst 0, 1) := by decide +kernel
theorem dX0_holdsFor_36 : decode cX0_holdsFor 36 = .ok (.ireturn, 1) := by decide +kernel
theorem dX0_passHour_0 : decode cX0_passHour 0 = .ok (.aload_n 0, 1) := by decide +kernel
theorem dX0_passHour_1 : decode cX0_passHour 1 = .ok (.invokevirtual 104, 3) := by decide +kernel
theorem dX0_passHour_4 : decode cX0_passHour 4 = .ok (.istore_n 1, 1) := by decide +kernel
theorem dX0_passHour_5 : decode cX0_passHour 5 = .ok (.iconst 0, 1) := by decide +kernel
theorem dX0_passHour_6 : decode cX0_passHour 6 = .ok (.istore_n 2, 1) := by decide +kernel
theorem dX0_passHour_7 : decode cX0_passHour 7 = .ok (.iload_n 2, 1) := by decide +kernel
theorem dX0_passHour_8 : decode cX0_passHour 8 = .ok (.aload_n 0, 1) := by decide +kernel
theorem dX0_passHour_9 : decode cX0_passHour 9 = .ok (.getfield 29, 3) := by decide +kernel
theorem dX0_passHour_12 : decode cX0_passHour 12 = .ok (.if_icmp .ge 39, 3) := by decide +kernel
theorem dX0_passHour_15 : decode cX0_passHour 15 = .ok (.aload_n 0, 1) := by decide +kernel
theorem dX0_passHour_16 : decode cX0_passHour 16 = .ok (.getfield 47, 3) := by decide +kernel
theorem dX0_passHour_19 : decode cX0_passHour 19 = .ok (.iload_n 2, 1) := by decide +kernel
theorem dX0_passHour_20 : decode cX0_passHour 20 = .ok (.iaload, 1) := by decide +kernel
theorem dX0_passHour_21 : decode cX0_passHour 21 = .ok (.ifCond .ne 24, 3) := by decide +kernel
theorem dX0_passHour_24 : decode cX0_passHour 24 = .ok (.aload_n 0, 1) := by decide +kernel
theorem dX0_passHour_25 : decode cX0_passHour 25 = .ok (.getfield 35, 3) := by decide +kernel
theorem dX0_passHour_28 : decode cX0_passHour 28 = .ok (.iload_n 2, 1) := by decide +kernel
theorem dX0_passHour_29 : decode cX0_passHour 29 = .ok (.iaload, 1) := by decide +kernel
theorem dX0_passHour_30 : decode cX0_passHour 30 = .ok (.aload_n 0, 1) := by decide +kernel
theorem dX0_passHour_31 : decode cX0_passHour 31 = .ok (.getfield 41, 3) := by decide +kernel
theorem dX0_passHour_34 : decode cX0_passHour 34 = .ok (.iload_n 2, 1) := by decide +kernel
theorem dX0_passHour_35 : decode cX0_passHour 35 = .ok (.iaload, 1) := by decide +kernel
theorem dX0_passHour_36 : decode cX0_passHour 36 = .ok (.if_icmp .eq 9, 3) := by decide +kernel
theorem dX0_passHour_39 : decode cX0_passHour 39 = .ok (.aload_n 0, 1) := by decide +kernel
theorem dX0_passHour_40 : decode cX0_passHour 40 = .ok (.iload_n 2, 1) := by decide +kernel
theorem dX0_passHour_41 : decode cX0_passHour 41 = .ok (.iload_n 1, 1) := by decide +kernel
theorem dX0_passHour_42 : decode cX0_passHour 42 = .ok (.invokevirtual 107, 3) := by decide +kernel
theorem dX0_passHour_45 : decode cX0_passHour 45 = .ok (.iinc 2 1, 3) := by decide +kernel
theorem dX0_passHour_48 : decode cX0_passHour 48 = .ok (.goto (-41), 3) := by decide +kernel
theorem dX0_passHour_51 : decode cX0_passHour 51 = .ok (.aload_n 0, 1) := by decide +kernel
theorem dX0_passHour_52 : decode cX0_passHour 52 = .ok (.getfield 23, 3) := by decide +kernel
theorem dX0_passHour_55 : decode cX0_passHour 55 = .ok (.ifCond .ne 8, 3) := by decide +kernel
theorem dX0_passHour_58 : decode cX0_passHour 58 = .ok (.aload_n 0, 1) := by decide +kernel
theorem dX0_passHour_59 : decode cX0_passHour 59 = .ok (.iload_n 1, 1) := by decide +kernel
theorem dX0_passHour_60 : decode cX0_passHour 60 = .ok (.invokevirtual 111, 3) := by decide +kernel
theorem dX0_passHour_63 : decode cX0_passHour 63 = .ok (.aload_n 0, 1) := by decide +kernel
theorem dX0_passHour_64 : decode cX0_passHour 64 = .ok (.aload_n 0, 1) := by decide +kernel
theorem dX0_passHour_65 : decode cX0_passHour 65 = .ok (.getfield 26, 3) := by decide +kernel
theorem dX0_passHour_68 : decode cX0_passHour 68 = .ok (.iconst 1, 1) := by decide +kernel
theorem dX0_passHour_69 : decode cX0_passHour 69 = .ok (.iadd, 1) := by decide +kernel
theorem dX0_passHour_70 : decode cX0_passHour 70 = .ok (.ldc 115, 2) := by decide +kernel
theorem dX0_passHour_72 : decode cX0_passHour 72 = .ok (.invokestatic 116, 3) := by decide +kernel
theorem dX0_passHour_75 : decode cX0_passHour 75 = .ok (.putfield 26, 3) := by decide +kernel
theorem dX0_passHour_78 : decode cX0_passHour 78 = .ok (.return_, 1) := by decide +kernel
theorem dX0_walk_0 : decode cX0_walk 0 = .ok (.aload_n 0, 1) := by decide +kernel
theorem dX0_walk_1 : decode cX0_walk 1 = .ok (.iload_n 1, 1) := by decide +kernel
theorem dX0_walk_2 : decode cX0_walk 2 = .ok (.invokevirtual 88, 3) := by decide +kernel
theorem dX0_walk_5 : decode cX0_walk 5 = .ok (.istore_n 3, 1) := by decide +kernel
theorem dX0_walk_6 : decode cX0_walk 6 = .ok (.aload_n 0, 1) := by decide +kernel
theorem dX0_walk_7 : decode cX0_walk 7 = .ok (.getfield 32, 3) := by decide +kernel
theorem dX0_walk_10 : decode cX0_walk 10 = .ok (.iload_n 1, 1) := by decide +kernel
theorem dX0_walk_11 : decode cX0_walk 11 = .ok (.iaload, 1) := by decide +kernel
theorem dX0_walk_12 : decode cX0_walk 12 = .ok (.invokestatic 119, 3) := by decide +kernel
theorem dX0_walk_15 : decode cX0_walk 15 = .ok (.istore 4, 2) := by decide +kernel
theorem dX0_walk_17 : decode cX0_walk 17 = .ok (.aload_n 0, 1) := by decide +kernel
theorem dX0_walk_18 : decode cX0_walk 18 = .ok (.getfield 41, 3) := by decide +kernel
theorem dX0_walk_21 : decode cX0_walk 21 = .ok (.iload_n 1, 1) := by decide +kernel
theorem dX0_walk_22 : decode cX0_walk 22 = .ok (.iaload, 1) := by decide +kernel
theorem dX0_walk_23 : decode cX0_walk 23 = .ok (.aload_n 0, 1) := by decide +kernel
theorem dX0_walk_24 : decode cX0_walk 24 = .ok (.getfield 35, 3) := by decide +kernel
theorem dX0_walk_27 : decode cX0_walk 27 = .ok (.iload_n 1, 1) := by decide +kernel
theorem dX0_walk_28 : decode cX0_walk 28 = .ok (.iaload, 1) := by decide +kernel
theorem dX0_walk_29 : decode cX0_walk 29 = .ok (.if_icmp .le 7, 3) := by decide +kernel
theorem dX0_walk_32 : decode cX0_walk 32 = .ok (.iconst 1, 1) := by decide +kernel
theorem dX0_walk_33 : decode cX0_walk 33 = .ok (.goto 4, 3) := by decide +kernel
theorem dX0_walk_36 : decode cX0_walk 36 = .ok (.iconst (-1), 1) := by decide +kernel
theorem dX0_walk_37 : decode cX0_walk 37 = .ok (.istore 5, 2) := by decide +kernel
theorem dX0_walk_39 : decode cX0_walk 39 = .ok (.iconst 0, 1) := by decide +kernel
theorem dX0_walk_40 : decode cX0_walk 40 = .ok (.istore 6, 2) := by decide +kernel
theorem dX0_walk_42 : decode cX0_walk 42 = .ok (.iload 6, 2) := by decide +kernel
theorem dX0_walk_44 : decode cX0_walk 44 = .ok (.iload 4, 2) := by decide +kernel
theorem dX0_walk_46 : decode cX0_walk 46 = .ok (.if_icmp .ge 53, 3) := by decide +kernel
theorem dX0_walk_49 : decode cX0_walk 49 = .ok (.aload_n 0, 1) := by decide +kernel
theorem dX0_walk_50 : decode cX0_walk 50 = .ok (.getfield 35, 3) := by decide +kernel
theorem dX0_walk_53 : decode cX0_walk 53 = .ok (.iload_n 1, 1) := by decide +kernel
theorem dX0_walk_54 : decode cX0_walk 54 = .ok (.iaload, 1) := by decide +kernel
theorem dX0_walk_55 : decode cX0_walk 55 = .ok (.aload_n 0, 1) := by decide +kernel
theorem dX0_walk_56 : decode cX0_walk 56 = .ok (.getfield 41, 3) := by decide +kernel
theorem dX0_walk_59 : decode cX0_walk 59 = .ok (.iload_n 1, 1) := by decide +kernel
theorem dX0_walk_60 : decode cX0_walk 60 = .ok (.iaload, 1) := by decide +kernel
theorem dX0_walk_61 : decode cX0_walk 61 = .ok (.if_icmp .eq 38, 3) := by decide +kernel
theorem dX0_walk_64 : decode cX0_walk 64 = .ok (.aload_n 0, 1) := by decide +kernel
theorem dX0_walk_65 : decode cX0_walk 65 = .ok (.aload_n 0, 1) := by decide +kernel
theorem dX0_walk_66 : decode cX0_walk 66 = .ok (.getfield 35, 3) := by decide +kernel
theorem dX0_walk_69 : decode cX0_walk 69 = .ok (.iload_n 1, 1) := by decide +kernel
theorem dX0_walk_70 : decode cX0_walk 70 = .ok (.iaload, 1) := by decide +kernel
theorem dX0_walk_71 : decode cX0_walk 71 = .ok (.iload 5, 2) := by decide +kernel
theorem dX0_walk_73 : decode cX0_walk 73 = .ok (.iadd, 1) := by decide +kernel
theorem dX0_walk_74 : decode cX0_walk 74 = .ok (.iload_n 2, 1) := by decide +kernel
theorem dX0_walk_75 : decode cX0_walk 75 = .ok (.invokevirtual 91, 3) := by decide +kernel
theorem dX0_walk_78 : decode cX0_walk 78 = .ok (.iload_n 3, 1) := by decide +kernel
theorem dX0_walk_79 : decode cX0_walk 79 = .ok (.if_icmp .lt 20, 3) := by decide +kernel
theorem dX0_walk_82 : decode cX0_walk 82 = .ok (.aload_n 0, 1) := by decide +kernel
theorem dX0_walk_83 : decode cX0_walk 83 = .ok (.getfield 35, 3) := by decide +kernel
theorem dX0_walk_86 : decode cX0_walk 86 = .ok (.iload_n 1, 1) := by decide +kernel
theorem dX0_walk_87 : decode cX0_walk 87 = .ok (.dup2, 1) := by decide +kernel
theorem dX0_walk_88 : decode cX0_walk 88 = .ok (.iaload, 1) := by decide +kernel
theorem dX0_walk_89 : decode cX0_walk 89 = .ok (.iload 5, 2) := by decide +kernel
theorem dX0_walk_91 : decode cX0_walk 91 = .ok (.iadd, 1) := by decide +kernel
theorem dX0_walk_92 : decode cX0_walk 92 = .ok (.iastore, 1) := by decide +kernel
theorem dX0_walk_93 : decode cX0_walk 93 = .ok (.iinc 6 1, 3) := by decide +kernel
theorem dX0_walk_96 : decode cX0_walk 96 = .ok (.goto (-54), 3) := by decide +kernel
theorem dX0_walk_99 : decode cX0_walk 99 = .ok (.aload_n 0, 1) := by decide +kernel
theorem dX0_walk_100 : decode cX0_walk 100 = .ok (.getfield 44, 3) := by decide +kernel
theorem dX0_walk_103 : decode cX0_walk 103 = .ok (.iload_n 1, 1) := by decide +kernel
theorem dX0_walk_104 : decode cX0_walk 104 = .ok (.iload 6, 2) := by decide +kernel
theorem dX0_walk_106 : decode cX0_walk 106 = .ok (.ifCond .le 7, 3) := by decide +kernel
theorem dX0_walk_109 : decode cX0_walk 109 = .ok (.iconst 0, 1) := by decide +kernel
theorem dX0_walk_110 : decode cX0_walk 110 = .ok (.goto 17, 3) := by decide +kernel
theorem dX0_walk_113 : decode cX0_walk 113 = .ok (.aload_n 0, 1) := by decide +kernel
theorem dX0_walk_114 : decode cX0_walk 114 = .ok (.getfield 44, 3) := by decide +kernel
theorem dX0_walk_117 : decode cX0_walk 117 = .ok (.iload_n 1, 1) := by decide +kernel
theorem dX0_walk_118 : decode cX0_walk 118 = .ok (.iaload, 1) := by decide +kernel
theorem dX0_walk_119 : decode cX0_walk 119 = .ok (.iconst 1, 1) := by decide +kernel
theorem dX0_walk_120 : decode cX0_walk 120 = .ok (.iadd, 1) := by decide +kernel
theorem dX0_walk_121 : decode cX0_walk 121 = .ok (.sipush 9999, 3) := by decide +kernel
theorem dX0_walk_124 : decode cX0_walk 124 = .ok (.invokestatic 116, 3) := by decide +kernel
theorem dX0_walk_127 : decode cX0_walk 127 = .ok (.iastore, 1) := by decide +kernel
theorem dX0_walk_128 : decode cX0_walk 128 = .ok (.return_, 1) := by decide +kernel
theorem dX0_pull_0 : decode cX0_pull 0 = .ok (.bipush 36, 2) := by decide +kernel
theorem dX0_pull_2 : decode cX0_pull 2 = .ok (.iload_n 1, 1) := by decide +kernel
theorem dX0_pull_3 : decode cX0_pull 3 = .ok (.isub, 1) := by decide +kernel
theorem dX0_pull_4 : decode cX0_pull 4 = .ok (.istore_n 2, 1) := by decide +kernel
theorem dX0_pull_5 : decode cX0_pull 5 = .ok (.iconst 0, 1) := by decide +kernel
theorem dX0_pull_6 : decode cX0_pull 6 = .ok (.istore_n 3, 1) := by decide +kernel
theorem dX0_pull_7 : decode cX0_pull 7 = .ok (.iconst 0, 1) := by decide +kernel
theorem dX0_pull_8 : decode cX0_pull 8 = .ok (.istore 4, 2) := by decide +kernel
theorem dX0_pull_10 : decode cX0_pull 10 = .ok (.iload 4, 2) := by decide +kernel
theorem dX0_pull_12 : decode cX0_pull 12 = .ok (.aload_n 0, 1) := by decide +kernel
theorem dX0_pull_13 : decode cX0_pull 13 = .ok (.getfield 29, 3) := by decide +kernel
theorem dX0_pull_16 : decode cX0_pull 16 = .ok (.if_icmp .ge 63, 3) := by decide +kernel
theorem dX0_pull_19 : decode cX0_pull 19 = .ok (.aload_n 0, 1) := by decide +kernel
theorem dX0_pull_20 : decode cX0_pull 20 = .ok (.getfield 47, 3) := by decide +kernel
theorem dX0_pull_23 : decode cX0_pull 23 = .ok (.iload 4, 2) := by decide +kernel
theorem dX0_pull_25 : decode cX0_pull 25 = .ok (.iaload, 1) := by decide +kernel
theorem dX0_pull_26 : decode cX0_pull 26 = .ok (.ifCond .ne 47, 3) := by decide +kernel
theorem dX0_pull_29 : decode cX0_pull 29 = .ok (.iload_n 2, 1) := by decide +kernel
theorem dX0_pull_30 : decode cX0_pull 30 = .ok (.aload_n 0, 1) := by decide +kernel
theorem dX0_pull_31 : decode cX0_pull 31 = .ok (.getfield 35, 3) := by decide +kernel
theorem dX0_pull_34 : decode cX0_pull 34 = .ok (.iload 4, 2) := by decide +kernel
theorem dX0_pull_36 : decode cX0_pull 36 = .ok (.iaload, 1) := by decide +kernel
theorem dX0_pull_37 : decode cX0_pull 37 = .ok (.ifCond .ne 20, 3) := by decide +kernel
theorem dX0_pull_40 : decode cX0_pull 40 = .ok (.aload_n 0, 1) := by decide +kernel
theorem dX0_pull_41 : decode cX0_pull 41 = .ok (.getfield 32, 3) := by decide +kernel
theorem dX0_pull_44 : decode cX0_pull 44 = .ok (.iload 4, 2) := by decide +kernel
theorem dX0_pull_46 : decode cX0_pull 46 = .ok (.iaload, 1) := by decide +kernel
theorem dX0_pull_47 : decode cX0_pull 47 = .ok (.aload_n 0, 1) := by decide +kernel
theorem dX0_pull_48 : decode cX0_pull 48 = .ok (.getfield 26, 3) := by decide +kernel
theorem dX0_pull_51 : decode cX0_pull 51 = .ok (.invokestatic 122, 3) := by decide +kernel
theorem dX0_pull_54 : decode cX0_pull 54 = .ok (.goto 4, 3) := by decide +kernel
theorem dX0_pull_57 : decode cX0_pull 57 = .ok (.iconst 0, 1) := by decide +kernel
theorem dX0_pull_58 : decode cX0_pull 58 = .ok (.iadd, 1) := by decide +kernel
theorem dX0_pull_59 : decode cX0_pull 59 = .ok (.istore_n 2, 1) := by decide +kernel
theorem dX0_pull_60 : decode cX0_pull 60 = .ok (.iload_n 3, 1) := by decide +kernel
theorem dX0_pull_61 : decode cX0_pull 61 = .ok (.aload_n 0, 1) := by decide +kernel
theorem dX0_pull_62 : decode cX0_pull 62 = .ok (.getfield 32, 3) := by decide +kernel
theorem dX0_pull_65 : decode cX0_pull 65 = .ok (.iload 4, 2) := by decide +kernel
theorem dX0_pull_67 : decode cX0_pull 67 = .ok (.iaload, 1) := by decide +kernel
theorem dX0_pull_68 : decode cX0_pull 68 = .ok (.invokestatic 125, 3) := by decide +kernel
theorem dX0_pull_71 : decode cX0_pull 71 = .ok (.iadd, 1) := by decide +kernel
theorem dX0_pull_72 : decode cX0_pull 72 = .ok (.istore_n 3, 1) := by decide +kernel
theorem dX0_pull_73 : decode cX0_pull 73 = .ok (.iinc 4 1, 3) := by decide +kernel
theorem dX0_pull_76 : decode cX0_pull 76 = .ok (.goto (-66), 3) := by decide +kernel
theorem dX0_pull_79 : decode cX0_pull 79 = .ok (.aload_n 0, 1) := by decide +kernel
theorem dX0_pull_80 : decode cX0_pull 80 = .ok (.aload_n 0, 1) := by decide +kernel
theorem dX0_pull_81 : decode cX0_pull 81 = .ok (.getfield 20, 3) := by decide +kernel
theorem dX0_pull_84 : decode cX0_pull 84 = .ok (.iload_n 2, 1) := by decide +kernel
theorem dX0_pull_85 : decode cX0_pull 85 = .ok (.iadd, 1) := by decide +kernel
theorem dX0_pull_86 : decode cX0_pull 86 = .ok (.iload_n 3, 1) := by decide +kernel
theorem dX0_pull_87 : decode cX0_pull 87 = .ok (.isub, 1) := by decide +kernel
theorem dX0_pull_88 : decode cX0_pull 88 = .ok (.iconst 0, 1) := by decide +kernel
theorem dX0_pull_89 : decode cX0_pull 89 = .ok (.invokestatic 82, 3) := by decide +kernel
theorem dX0_pull_92 : decode cX0_pull 92 = .ok (.sipush 9999, 3) := by decide +kernel
theorem dX0_pull_95 : decode cX0_pull 95 = .ok (.invokestatic 116, 3) := by decide +kernel
theorem dX0_pull_98 : decode cX0_pull 98 = .ok (.putfield 20, 3) := by decide +kernel
theorem dX0_pull_101 : decode cX0_pull 101 = .ok (.aload_n 0, 1) := by decide +kernel
theorem dX0_pull_102 : decode cX0_pull 102 = .ok (.getfield 20, 3) := by decide +kernel
theorem dX0_pull_105 : decode cX0_pull 105 = .ok (.aload_n 0, 1) := by decide +kernel
theorem dX0_pull_106 : decode cX0_pull 106 = .ok (.getfield 16, 3) := by decide +kernel
theorem dX0_pull_109 : decode cX0_pull 109 = .ok (.if_icmp .le 8, 3) := by decide +kernel
theorem dX0_pull_112 : decode cX0_pull 112 = .ok (.aload_n 0, 1) := by decide +kernel
theorem dX0_pull_113 : decode cX0_pull 113 = .ok (.iconst 1, 1) := by decide +kernel
theorem dX0_pull_114 : decode cX0_pull 114 = .ok (.putfield 23, 3) := by decide +kernel
theorem dX0_pull_117 : decode cX0_pull 117 = .ok (.return_, 1) := by decide +kernel
theorem dX0_draw_0 : decode cX0_draw 0 = .ok (.aload_n 0, 1) := by decide +kernel
theorem dX0_draw_1 : decode cX0_draw 1 = .ok (.aload_n 0, 1) := by decide +kernel
theorem dX0_draw_2 : decode cX0_draw 2 = .ok (.getfield 50, 3) := by decide +kernel
theorem dX0_draw_5 : decode cX0_draw 5 = .ok (.ldc 128, 2) := by decide +kernel
theorem dX0_draw_7 : decode cX0_draw 7 = .ok (.imul, 1) := by decide +kernel
theorem dX0_draw_8 : decode cX0_draw 8 = .ok (.sipush 12345, 3) := by decide +kernel
theorem dX0_draw_11 : decode cX0_draw 11 = .ok (.iadd, 1) := by decide +kernel
theorem dX0_draw_12 : decode cX0_draw 12 = .ok (.putfield 50, 3) := by decide +kernel
theorem dX0_draw_15 : decode cX0_draw 15 = .ok (.aload_n 0, 1) := by decide +kernel
theorem dX0_draw_16 : decode cX0_draw 16 = .ok (.getfield 50, 3) := by decide +kernel
theorem dX0_draw_19 : decode cX0_draw 19 = .ok (.bipush 8, 2) := by decide +kernel
theorem dX0_draw_21 : decode cX0_draw 21 = .ok (.iushr, 1) := by decide +kernel
theorem dX0_draw_22 : decode cX0_draw 22 = .ok (.ireturn, 1) := by decide +kernel
theorem dX0_passPartyHour_0 : decode cX0_passPartyHour 0 = .ok (.aload_n 0, 1) := by decide +kernel
theorem dX0_passPartyHour_1 : decode cX0_passPartyHour 1 = .ok (.getfield 13, 3) := by decide +kernel
theorem dX0_passPartyHour_4 : decode cX0_passPartyHour 4 = .ok (.aload_n 0, 1) := by decide +kernel
theorem dX0_passPartyHour_5 : decode cX0_passPartyHour 5 = .ok (.invokevirtual 78, 3) := by decide +kernel
theorem dX0_passPartyHour_8 : decode cX0_passPartyHour 8 = .ok (.bipush 16, 2) := by decide +kernel
theorem dX0_passPartyHour_10 : decode cX0_passPartyHour 10 = .ok (.aload_n 0, 1) := by decide +kernel
theorem dX0_passPartyHour_11 : decode cX0_passPartyHour 11 = .ok (.invokevirtual 129, 3) := by decide +kernel
theorem dX0_passPartyHour_14 : decode cX0_passPartyHour 14 = .ok (.bipush 21, 2) := by decide +kernel
theorem dX0_passPartyHour_16 : decode cX0_passPartyHour 16 = .ok (.irem, 1) := by decide +kernel
theorem dX0_passPartyHour_17 : decode cX0_passPartyHour 17 = .ok (.iadd, 1) := by decide +kernel
theorem dX0_passPartyHour_18 : decode cX0_passPartyHour 18 = .ok (.iastore, 1) := by decide +kernel
theorem dX0_passPartyHour_19 : decode cX0_passPartyHour 19 = .ok (.aload_n 0, 1) := by decide +kernel
theorem dX0_passPartyHour_20 : decode cX0_passPartyHour 20 = .ok (.invokevirtual 129, 3) := by decide +kernel
theorem dX0_passPartyHour_23 : decode cX0_passPartyHour 23 = .ok (.bipush 8, 2) := by decide +kernel
theorem dX0_passPartyHour_25 : decode cX0_passPartyHour 25 = .ok (.irem, 1) := by decide +kernel
theorem dX0_passPartyHour_26 : decode cX0_passPartyHour 26 = .ok (.istore_n 1, 1) := by decide +kernel
theorem dX0_passPartyHour_27 : decode cX0_passPartyHour 27 = .ok (.iload_n 1, 1) := by decide +kernel
theorem dX0_passPartyHour_28 : decode cX0_passPartyHour 28 = .ok (.aload_n 0, 1) := by decide +kernel
theorem dX0_passPartyHour_29 : decode cX0_passPartyHour 29 = .ok (.getfield 29, 3) := by decide +kernel
theorem dX0_passPartyHour_32 : decode cX0_passPartyHour 32 = .ok (.if_icmp .ge 20, 3) := by decide +kernel
theorem dX0_passPartyHour_35 : decode cX0_passPartyHour 35 = .ok (.aload_n 0, 1) := by decide +kernel
theorem dX0_passPartyHour_36 : decode cX0_passPartyHour 36 = .ok (.getfield 41, 3) := by decide +kernel
theorem dX0_passPartyHour_39 : decode cX0_passPartyHour 39 = .ok (.iload_n 1, 1) := by decide +kernel
theorem dX0_passPartyHour_40 : decode cX0_passPartyHour 40 = .ok (.aload_n 0, 1) := by decide +kernel
theorem dX0_passPartyHour_41 : decode cX0_passPartyHour 41 = .ok (.getfield 41, 3) := by decide +kernel
theorem dX0_passPartyHour_44 : decode cX0_passPartyHour 44 = .ok (.iload_n 1, 1) := by decide +kernel
theorem dX0_passPartyHour_45 : decode cX0_passPartyHour 45 = .ok (.iaload, 1) := by decide +kernel
theorem dX0_passPartyHour_46 : decode cX0_passPartyHour 46 = .ok (.iconst 1, 1) := by decide +kernel
theorem dX0_passPartyHour_47 : decode cX0_passPartyHour 47 = .ok (.iadd, 1) := by decide +kernel
theorem dX0_passPartyHour_48 : decode cX0_passPartyHour 48 = .ok (.bipush 16, 2) := by decide +kernel
theorem dX0_passPartyHour_50 : decode cX0_passPartyHour 50 = .ok (.irem, 1) := by decide +kernel
theorem dX0_passPartyHour_51 : decode cX0_passPartyHour 51 = .ok (.iastore, 1) := by decide +kernel
theorem dX0_passPartyHour_52 : decode cX0_passPartyHour 52 = .ok (.aload_n 0, 1) := by decide +kernel
theorem dX0_passPartyHour_53 : decode cX0_passPartyHour 53 = .ok (.invokevirtual 101, 3) := by decide +kernel
theorem dX0_passPartyHour_56 : decode cX0_passPartyHour 56 = .ok (.return_, 1) := by decide +kernel
theorem dX0_thoseStuck_0 : decode cX0_thoseStuck 0 = .ok (.iconst 0, 1) := by decide +kernel
theorem dX0_thoseStuck_1 : decode cX0_thoseStuck 1 = .ok (.istore_n 1, 1) := by decide +kernel
theorem dX0_thoseStuck_2 : decode cX0_thoseStuck 2 = .ok (.iconst 0, 1) := by decide +kernel
theorem dX0_thoseStuck_3 : decode cX0_thoseStuck 3 = .ok (.istore_n 2, 1) := by decide +kernel
theorem dX0_thoseStuck_4 : decode cX0_thoseStuck 4 = .ok (.iload_n 2, 1) := by decide +kernel
theorem dX0_thoseStuck_5 : decode cX0_thoseStuck 5 = .ok (.aload_n 0, 1) := by decide +kernel
theorem dX0_thoseStuck_6 : decode cX0_thoseStuck 6 = .ok (.getfield 29, 3) := by decide +kernel
theorem dX0_thoseStuck_9 : decode cX0_thoseStuck 9 = .ok (.if_icmp .ge 28, 3) := by decide +kernel
theorem dX0_thoseStuck_12 : decode cX0_thoseStuck 12 = .ok (.iload_n 1, 1) := by decide +kernel
theorem dX0_thoseStuck_13 : decode cX0_thoseStuck 13 = .ok (.aload_n 0, 1) := by decide +kernel
theorem dX0_thoseStuck_14 : decode cX0_thoseStuck 14 = .ok (.getfield 44, 3) := by decide +kernel
theorem dX0_thoseStuck_17 : decode cX0_thoseStuck 17 = .ok (.iload_n 2, 1) := by decide +kernel
theorem dX0_thoseStuck_18 : decode cX0_thoseStuck 18 = .ok (.iaload, 1) := by decide +kernel
theorem dX0_thoseStuck_19 : decode cX0_thoseStuck 19 = .ok (.ifCond .le 9, 3) := by decide +kernel
theorem dX0_thoseStuck_22 : decode cX0_thoseStuck 22 = .ok (.iconst 1, 1) := by decide +kernel
theorem dX0_thoseStuck_23 : decode cX0_thoseStuck 23 = .ok (.iload_n 2, 1) := by decide +kernel
theorem dX0_thoseStuck_24 : decode cX0_thoseStuck 24 = .ok (.ishl, 1) := by decide +kernel
theorem dX0_thoseStuck_25 : decode cX0_thoseStuck 25 = .ok (.goto 4, 3) := by decide +kernel
theorem dX0_thoseStuck_28 : decode cX0_thoseStuck 28 = .ok (.iconst 0, 1) := by decide +kernel
theorem dX0_thoseStuck_29 : decode cX0_thoseStuck 29 = .ok (.ior, 1) := by decide +kernel
theorem dX0_thoseStuck_30 : decode cX0_thoseStuck 30 = .ok (.istore_n 1, 1) := by decide +kernel
theorem dX0_thoseStuck_31 : decode cX0_thoseStuck 31 = .ok (.iinc 2 1, 3) := by decide +kernel
theorem dX0_thoseStuck_34 : decode cX0_thoseStuck 34 = .ok (.goto (-30), 3) := by decide +kernel
theorem dX0_thoseStuck_37 : decode cX0_thoseStuck 37 = .ok (.iload_n 1, 1) := by decide +kernel
theorem dX0_thoseStuck_38 : decode cX0_thoseStuck 38 = .ok (.ireturn, 1) := by decide +kernel
theorem dX0_thoseAtAim_0 : decode cX0_thoseAtAim 0 = .ok (.iconst 0, 1) := by decide +kernel
theorem dX0_thoseAtAim_1 : decode cX0_thoseAtAim 1 = .ok (.istore_n 1, 1) := by decide +kernel
theorem dX0_thoseAtAim_2 : decode cX0_thoseAtAim 2 = .ok (.iconst 0, 1) := by decide +kernel
theorem dX0_thoseAtAim_3 : decode cX0_thoseAtAim 3 = .ok (.istore_n 2, 1) := by decide +kernel
theorem dX0_thoseAtAim_4 : decode cX0_thoseAtAim 4 = .ok (.iload_n 2, 1) := by decide +kernel
theorem dX0_thoseAtAim_5 : decode cX0_thoseAtAim 5 = .ok (.aload_n 0, 1) := by decide +kernel
theorem dX0_thoseAtAim_6 : decode cX0_thoseAtAim 6 = .ok (.getfield 29, 3) := by decide +kernel
theorem dX0_thoseAtAim_9 : decode cX0_thoseAtAim 9 = .ok (.if_icmp .ge 34, 3) := by decide +kernel
theorem dX0_thoseAtAim_12 : decode cX0_thoseAtAim 12 = .ok (.iload_n 1, 1) := by decide +kernel
theorem dX0_thoseAtAim_13 : decode cX0_thoseAtAim 13 = .ok (.aload_n 0, 1) := by decide +kernel
theorem dX0_thoseAtAim_14 : decode cX0_thoseAtAim 14 = .ok (.getfield 35, 3) := by decide +kernel
theorem dX0_thoseAtAim_17 : decode cX0_thoseAtAim 17 = .ok (.iload_n 2, 1) := by decide +kernel
theorem dX0_thoseAtAim_18 : decode cX0_thoseAtAim 18 = .ok (.iaload, 1) := by decide +kernel
theorem dX0_thoseAtAim_19 : decode cX0_thoseAtAim 19 = .ok (.aload_n 0, 1) := by decide +kernel
theorem dX0_thoseAtAim_20 : decode cX0_thoseAtAim 20 = .ok (.getfield 41, 3) := by decide +kernel
theorem dX0_thoseAtAim_23 : decode cX0_thoseAtAim 23 = .ok (.iload_n 2, 1) := by decide +kernel
theorem dX0_thoseAtAim_24 : decode cX0_thoseAtAim 24 = .ok (.iaload, 1) := by decide +kernel
theorem dX0_thoseAtAim_25 : decode cX0_thoseAtAim 25 = .ok (.if_icmp .ne 9, 3) := by decide +kernel
theorem dX0_thoseAtAim_28 : decode cX0_thoseAtAim 28 = .ok (.iconst 1, 1) := by decide +kernel
theorem dX0_thoseAtAim_29 : decode cX0_thoseAtAim 29 = .ok (.iload_n 2, 1) := by decide +kernel
theorem dX0_thoseAtAim_30 : decode cX0_thoseAtAim 30 = .ok (.ishl, 1) := by decide +kernel
theorem dX0_thoseAtAim_31 : decode cX0_thoseAtAim 31 = .ok (.goto 4, 3) := by decide +kernel
theorem dX0_thoseAtAim_34 : decode cX0_thoseAtAim 34 = .ok (.iconst 0, 1) := by decide +kernel
theorem dX0_thoseAtAim_35 : decode cX0_thoseAtAim 35 = .ok (.ior, 1) := by decide +kernel
theorem dX0_thoseAtAim_36 : decode cX0_thoseAtAim 36 = .ok (.istore_n 1, 1) := by decide +kernel
theorem dX0_thoseAtAim_37 : decode cX0_thoseAtAim 37 = .ok (.iinc 2 1, 3) := by decide +kernel
theorem dX0_thoseAtAim_40 : decode cX0_thoseAtAim 40 = .ok (.goto (-36), 3) := by decide +kernel
theorem dX0_thoseAtAim_43 : decode cX0_thoseAtAim 43 = .ok (.iload_n 1, 1) := by decide +kernel
theorem dX0_thoseAtAim_44 : decode cX0_thoseAtAim 44 = .ok (.ireturn, 1) := by decide +kernel
theorem dX0_thoseInHall_0 : decode cX0_thoseInHall 0 = .ok (.iconst 0, 1) := by decide +kernel
theorem dX0_thoseInHall_1 : decode cX0_thoseInHall 1 = .ok (.istore_n 1, 1) := by decide +kernel
theorem dX0_thoseInHall_2 : decode cX0_thoseInHall 2 = .ok (.iconst 0, 1) := by decide +kernel
theorem dX0_thoseInHall_3 : decode cX0_thoseInHall 3 = .ok (.istore_n 2, 1) := by decide +kernel
theorem dX0_thoseInHall_4 : decode cX0_thoseInHall 4 = .ok (.iload_n 2, 1) := by decide +kernel
theorem dX0_thoseInHall_5 : decode cX0_thoseInHall 5 = .ok (.aload_n 0, 1) := by decide +kernel
theorem dX0_thoseInHall_6 : decode cX0_thoseInHall 6 = .ok (.getfield 29, 3) := by decide +kernel
theorem dX0_thoseInHall_9 : decode cX0_thoseInHall 9 = .ok (.if_icmp .ge 37, 3) := by decide +kernel
theorem dX0_thoseInHall_12 : decode cX0_thoseInHall 12 = .ok (.iload_n 1, 1) := by decide +kernel
theorem dX0_thoseInHall_13 : decode cX0_thoseInHall 13 = .ok (.aload_n 0, 1) := by decide +kernel
theorem dX0_thoseInHall_14 : decode cX0_thoseInHall 14 = .ok (.getfield 35, 3) := by decide +kernel
theorem dX0_thoseInHall_17 : decode cX0_thoseInHall 17 = .ok (.iload_n 2, 1) := by decide +kernel
theorem dX0_thoseInHall_18 : decode cX0_thoseInHall 18 = .ok (.iaload, 1) := by decide +kernel
theorem dX0_thoseInHall_19 : decode cX0_thoseInHall 19 = .ok (.ifCond .ne 18, 3) := by decide +kernel
theorem dX0_thoseInHall_22 : decode cX0_thoseInHall 22 = .ok (.aload_n 0, 1) := by decide +kernel
theorem dX0_thoseInHall_23 : decode cX0_thoseInHall 23 = .ok (.getfield 47, 3) := by decide +kernel
theorem dX0_thoseInHall_26 : decode cX0_thoseInHall 26 = .ok (.iload_n 2, 1) := by decide +kernel
theorem dX0_thoseInHall_27 : decode cX0_thoseInHall 27 = .ok (.iaload, 1) := by decide +kernel
theorem dX0_thoseInHall_28 : decode cX0_thoseInHall 28 = .ok (.ifCond .ne 9, 3) := by decide +kernel
theorem dX0_thoseInHall_31 : decode cX0_thoseInHall 31 = .ok (.iconst 1, 1) := by decide +kernel
theorem dX0_thoseInHall_32 : decode cX0_thoseInHall 32 = .ok (.iload_n 2, 1) := by decide +kernel
theorem dX0_thoseInHall_33 : decode cX0_thoseInHall 33 = .ok (.ishl, 1) := by decide +kernel
theorem dX0_thoseInHall_34 : decode cX0_thoseInHall 34 = .ok (.goto 4, 3) := by decide +kernel
theorem dX0_thoseInHall_37 : decode cX0_thoseInHall 37 = .ok (.iconst 0, 1) := by decide +kernel
theorem dX0_thoseInHall_38 : decode cX0_thoseInHall 38 = .ok (.ior, 1) := by decide +kernel
theorem dX0_thoseInHall_39 : decode cX0_thoseInHall 39 = .ok (.istore_n 1, 1) := by decide +kernel
theorem dX0_thoseInHall_40 : decode cX0_thoseInHall 40 = .ok (.iinc 2 1, 3) := by decide +kernel
theorem dX0_thoseInHall_43 : decode cX0_thoseInHall 43 = .ok (.goto (-39), 3) := by decide +kernel
theorem dX0_thoseInHall_46 : decode cX0_thoseInHall 46 = .ok (.iload_n 1, 1) := by decide +kernel
theorem dX0_thoseInHall_47 : decode cX0_thoseInHall 47 = .ok (.ireturn, 1) := by decide +kernel
theorem dX0_closedCells_0 : decode cX0_closedCells 0 = .ok (.aload_n 0, 1) := by decide +kernel
theorem dX0_closedCells_1 : decode cX0_closedCells 1 = .ok (.invokevirtual 104, 3) := by decide +kernel
theorem dX0_closedCells_4 : decode cX0_closedCells 4 = .ok (.istore_n 1, 1) := by decide +kernel
theorem dX0_closedCells_5 : decode cX0_closedCells 5 = .ok (.iconst 0, 1) := by decide +kernel
theorem dX0_closedCells_6 : decode cX0_closedCells 6 = .ok (.istore_n 2, 1) := by decide +kernel
theorem dX0_closedCells_7 : decode cX0_closedCells 7 = .ok (.iconst 0, 1) := by decide +kernel
theorem dX0_closedCells_8 : decode cX0_closedCells 8 = .ok (.istore_n 3, 1) := by decide +kernel
theorem dX0_closedCells_9 : decode cX0_closedCells 9 = .ok (.iload_n 3, 1) := by decide +kernel
theorem dX0_closedCells_10 : decode cX0_closedCells 10 = .ok (.bipush 16, 2) := by decide +kernel
theorem dX0_closedCells_12 : decode cX0_closedCells 12 = .ok (.if_icmp .ge 28, 3) := by decide +kernel
theorem dX0_closedCells_15 : decode cX0_closedCells 15 = .ok (.iload_n 2, 1) := by decide +kernel
theorem dX0_closedCells_16 : decode cX0_closedCells 16 = .ok (.aload_n 0, 1) := by decide +kernel
theorem dX0_closedCells_17 : decode cX0_closedCells 17 = .ok (.iload_n 3, 1) := by decide +kernel
theorem dX0_closedCells_18 : decode cX0_closedCells 18 = .ok (.iload_n 1, 1) := by decide +kernel
theorem dX0_closedCells_19 : decode cX0_closedCells 19 = .ok (.invokevirtual 91, 3) := by decide +kernel
theorem dX0_closedCells_22 : decode cX0_closedCells 22 = .ok (.ifCond .ne 9, 3) := by decide +kernel
theorem dX0_closedCells_25 : decode cX0_closedCells 25 = .ok (.iconst 1, 1) := by decide +kernel
theorem dX0_closedCells_26 : decode cX0_closedCells 26 = .ok (.iload_n 3, 1) := by decide +kernel
theorem dX0_closedCells_27 : decode cX0_closedCells 27 = .ok (.ishl, 1) := by decide +kernel
theorem dX0_closedCells_28 : decode cX0_closedCells 28 = .ok (.goto 4, 3) := by decide +kernel
theorem dX0_closedCells_31 : decode cX0_closedCells 31 = .ok (.iconst 0, 1) := by decide +kernel
theorem dX0_closedCells_32 : decode cX0_closedCells 32 = .ok (.ior, 1) := by decide +kernel
theorem dX0_closedCells_33 : decode cX0_closedCells 33 = .ok (.istore_n 2, 1) := by decide +kernel
theorem dX0_closedCells_34 : decode cX0_closedCells 34 = .ok (.iinc 3 1, 3) := by decide +kernel
theorem dX0_closedCells_37 : decode cX0_closedCells 37 = .ok (.goto (-28), 3) := by decide +kernel
theorem dX0_closedCells_40 : decode cX0_closedCells 40 = .ok (.iload_n 2, 1) := by decide +kernel
theorem dX0_closedCells_41 : decode cX0_closedCells 41 = .ok (.ireturn, 1) := by decide +kernel
theorem dX0_howManyHome_0 : decode cX0_howManyHome 0 = .ok (.iconst 0, 1) := by decide +kernel
theorem dX0_howManyHome_1 : decode cX0_howManyHome 1 = .ok (.istore_n 1, 1) := by decide +kernel
theorem dX0_howManyHome_2 : decode cX0_howManyHome 2 = .ok (.iconst 0, 1) := by decide +kernel
theorem dX0_howManyHome_3 : decode cX0_howManyHome 3 = .ok (.istore_n 2, 1) := by decide +kernel
theorem dX0_howManyHome_4 : decode cX0_howManyHome 4 = .ok (.iload_n 2, 1) := by decide +kernel
theorem dX0_howManyHome_5 : decode cX0_howManyHome 5 = .ok (.aload_n 0, 1) := by decide +kernel
theorem dX0_howManyHome_6 : decode cX0_howManyHome 6 = .ok (.getfield 29, 3) := by decide +kernel
theorem dX0_howManyHome_9 : decode cX0_howManyHome 9 = .ok (.if_icmp .ge 18, 3) := by decide +kernel
theorem dX0_howManyHome_12 : decode cX0_howManyHome 12 = .ok (.iload_n 1, 1) := by decide +kernel
theorem dX0_howManyHome_13 : decode cX0_howManyHome 13 = .ok (.aload_n 0, 1) := by decide +kernel
theorem dX0_howManyHome_14 : decode cX0_howManyHome 14 = .ok (.getfield 47, 3) := by decide +kernel
theorem dX0_howManyHome_17 : decode cX0_howManyHome 17 = .ok (.iload_n 2, 1) := by decide +kernel
theorem dX0_howManyHome_18 : decode cX0_howManyHome 18 = .ok (.iaload, 1) := by decide +kernel
theorem dX0_howManyHome_19 : decode cX0_howManyHome 19 = .ok (.iadd, 1) := by decide +kernel
theorem dX0_howManyHome_20 : decode cX0_howManyHome 20 = .ok (.istore_n 1, 1) := by decide +kernel
theorem dX0_howManyHome_21 : decode cX0_howManyHome 21 = .ok (.iinc 2 1, 3) := by decide +kernel
theorem dX0_howManyHome_24 : decode cX0_howManyHome 24 = .ok (.goto (-20), 3) := by decide +kernel
theorem dX0_howManyHome_27 : decode cX0_howManyHome 27 = .ok (.iload_n 1, 1) := by decide +kernel
theorem dX0_howManyHome_28 : decode cX0_howManyHome 28 = .ok (.ireturn, 1) := by decide +kernel
theorem dX0_howManyHeld_0 : decode cX0_howManyHeld 0 = .ok (.iconst 0, 1) := by decide +kernel
theorem dX0_howManyHeld_1 : decode cX0_howManyHeld 1 = .ok (.istore_n 1, 1) := by decide +kernel
theorem dX0_howManyHeld_2 : decode cX0_howManyHeld 2 = .ok (.iconst 0, 1) := by decide +kernel
theorem dX0_howManyHeld_3 : decode cX0_howManyHeld 3 = .ok (.istore_n 2, 1) := by decide +kernel
theorem dX0_howManyHeld_4 : decode cX0_howManyHeld 4 = .ok (.iload_n 2, 1) := by decide +kernel
theorem dX0_howManyHeld_5 : decode cX0_howManyHeld 5 = .ok (.bipush 10, 2) := by decide +kernel
theorem dX0_howManyHeld_7 : decode cX0_howManyHeld 7 = .ok (.if_icmp .ge 27, 3) := by decide +kernel
theorem dX0_howManyHeld_10 : decode cX0_howManyHeld 10 = .ok (.iload_n 1, 1) := by decide +kernel
theorem dX0_howManyHeld_11 : decode cX0_howManyHeld 11 = .ok (.aload_n 0, 1) := by decide +kernel
theorem dX0_howManyHeld_12 : decode cX0_howManyHeld 12 = .ok (.getfield 53, 3) := by decide +kernel
theorem dX0_howManyHeld_15 : decode cX0_howManyHeld 15 = .ok (.iload_n 2, 1) := by decide +kernel
theorem dX0_howManyHeld_16 : decode cX0_howManyHeld 16 = .ok (.iaload, 1) := by decide +kernel
theorem dX0_howManyHeld_17 : decode cX0_howManyHeld 17 = .ok (.iconst (-1), 1) := by decide +kernel
theorem dX0_howManyHeld_18 : decode cX0_howManyHeld 18 = .ok (.if_icmp .ne 7, 3) := by decide +kernel
theorem dX0_howManyHeld_21 : decode cX0_howManyHeld 21 = .ok (.iconst 0, 1) := by decide +kernel
theorem dX0_howManyHeld_22 : decode cX0_howManyHeld 22 = .ok (.goto 4, 3) := by decide +kernel
theorem dX0_howManyHeld_25 : decode cX0_howManyHeld 25 = .ok (.iconst 1, 1) := by decide +kernel
theorem dX0_howManyHeld_26 : decode cX0_howManyHeld 26 = .ok (.iadd, 1) := by decide +kernel
theorem dX0_howManyHeld_27 : decode cX0_howManyHeld 27 = .ok (.istore_n 1, 1) := by decide +kernel
theorem dX0_howManyHeld_28 : decode cX0_howManyHeld 28 = .ok (.iinc 2 1, 3) := by decide +kernel
theorem dX0_howManyHeld_31 : decode cX0_howManyHeld 31 = .ok (.goto (-27), 3) := by decide +kernel
theorem dX0_howManyHeld_34 : decode cX0_howManyHeld 34 = .ok (.iload_n 1, 1) := by decide +kernel
theorem dX0_howManyHeld_35 : decode cX0_howManyHeld 35 = .ok (.ireturn, 1) := by decide +kernel
theorem dX1_needs_0 : decode cX1_needs 0 = .ok (.iload_n 2, 1) := by decide +kernel
theorem dX1_needs_1 : decode cX1_needs 1 = .ok (.iconst 3, 1) := by decide +kernel
theorem dX1_needs_2 : decode cX1_needs 2 = .ok (.if_icmp .lt 8, 3) := by decide +kernel
theorem dX1_needs_5 : decode cX1_needs 5 = .ok (.bipush 8, 2) := by decide +kernel
theorem dX1_needs_7 : decode cX1_needs 7 = .ok (.goto 4, 3) := by decide +kernel
theorem dX1_needs_10 : decode cX1_needs 10 = .ok (.iconst 0, 1) := by decide +kernel
theorem dX1_needs_11 : decode cX1_needs 11 = .ok (.istore 4, 2) := by decide +kernel
theorem dX1_needs_13 : decode cX1_needs 13 = .ok (.iconst 0, 1) := by decide +kernel
theorem dX1_needs_14 : decode cX1_needs 14 = .ok (.iload_n 1, 1) := by decide +kernel
theorem dX1_needs_15 : decode cX1_needs 15 = .ok (.iconst 4, 1) := by decide +kernel
theorem dX1_needs_16 : decode cX1_needs 16 = .ok (.iadd, 1) := by decide +kernel
theorem dX1_needs_17 : decode cX1_needs 17 = .ok (.iload 4, 2) := by decide +kernel
theorem dX1_needs_19 : decode cX1_needs 19 = .ok (.isub, 1) := by decide +kernel
theorem dX1_needs_20 : decode cX1_needs 20 = .ok (.invokestatic 7, 3) := by decide +kernel
theorem dX1_needs_23 : decode cX1_needs 23 = .ok (.istore 5, 2) := by decide +kernel
theorem dX1_needs_25 : decode cX1_needs 25 = .ok (.iload_n 0, 1) := by decide +kernel
theorem dX1_needs_26 : decode cX1_needs 26 = .ok (.tableswitch 69 1 6 #[38, 47, 51, 57, 67, 41], 38) := by decide +kernel
theorem dX1_needs_64 : decode cX1_needs 64 = .ok (.iload 5, 2) := by decide +kernel
theorem dX1_needs_66 : decode cX1_needs 66 = .ok (.ireturn, 1) := by decide +kernel
theorem dX1_needs_67 : decode cX1_needs 67 = .ok (.iload 5, 2) := by decide +kernel
theorem dX1_needs_69 : decode cX1_needs 69 = .ok (.bipush 6, 2) := by decide +kernel
theorem dX1_needs_71 : decode cX1_needs 71 = .ok (.iadd, 1) := by decide +kernel
theorem dX1_needs_72 : decode cX1_needs 72 = .ok (.ireturn, 1) := by decide +kernel
theorem dX1_needs_73 : decode cX1_needs 73 = .ok (.iload_n 1, 1) := by decide +kernel
theorem dX1_needs_74 : decode cX1_needs 74 = .ok (.iconst 2, 1) := by decide +kernel
theorem dX1_needs_75 : decode cX1_needs 75 = .ok (.idiv, 1) := by decide +kernel
theorem dX1_needs_76 : decode cX1_needs 76 = .ok (.ireturn, 1) := by decide +kernel
theorem dX1_needs_77 : decode cX1_needs 77 = .ok (.iload_n 1, 1) := by decide +kernel
theorem dX1_needs_78 : decode cX1_needs 78 = .ok (.iconst 2, 1) := by decide +kernel
theorem dX1_needs_79 : decode cX1_needs 79 = .ok (.idiv, 1) := by decide +kernel
theorem dX1_needs_80 : decode cX1_needs 80 = .ok (.iconst 3, 1) := by decide +kernel
theorem dX1_needs_81 : decode cX1_needs 81 = .ok (.iadd, 1) := by decide +kernel
theorem dX1_needs_82 : decode cX1_needs 82 = .ok (.ireturn, 1) := by decide +kernel
theorem dX1_needs_83 : decode cX1_needs 83 = .ok (.iload_n 1, 1) := by decide +kernel
theorem dX1_needs_84 : decode cX1_needs 84 = .ok (.iconst 2, 1) := by decide +kernel
theorem dX1_needs_85 : decode cX1_needs 85 = .ok (.idiv, 1) := by decide +kernel
theorem dX1_needs_86 : decode cX1_needs 86 = .ok (.iconst 3, 1) := by decide +kernel
theorem dX1_needs_87 : decode cX1_needs 87 = .ok (.iadd, 1) := by decide +kernel
theorem dX1_needs_88 : decode cX1_needs 88 = .ok (.iload_n 3, 1) := by decide +kernel
theorem dX1_needs_89 : decode cX1_needs 89 = .ok (.iconst 2, 1) := by decide +kernel
theorem dX1_needs_90 : decode cX1_needs 90 = .ok (.irem, 1) := by decide +kernel
theorem dX1_needs_91 : decode cX1_needs 91 = .ok (.iadd, 1) := by decide +kernel
theorem dX1_needs_92 : decode cX1_needs 92 = .ok (.ireturn, 1) := by decide +kernel
theorem dX1_needs_93 : decode cX1_needs 93 = .ok (.iconst 4, 1) := by decide +kernel
theorem dX1_needs_94 : decode cX1_needs 94 = .ok (.ireturn, 1) := by decide +kernel
theorem dX1_needs_95 : decode cX1_needs 95 = .ok (.iload_n 1, 1) := by decide +kernel
theorem dX1_needs_96 : decode cX1_needs 96 = .ok (.ireturn, 1) := by decide +kernel
theorem dX1_steps_0 : decode cX1_steps 0 = .ok (.iload_n 0, 1) := by decide +kernel
theorem dX1_steps_1 : decode cX1_steps 1 = .ok (.tableswitch 47 1 6 #[39, 41, 43, 47, 45, 39], 39) := by decide +kernel
theorem dX1_steps_40 : decode cX1_steps 40 = .ok (.iconst 1, 1) := by decide +kernel
theorem dX1_steps_41 : decode cX1_steps 41 = .ok (.ireturn, 1) := by decide +kernel
theorem dX1_steps_42 : decode cX1_steps 42 = .ok (.iconst 4, 1) := by decide +kernel
theorem dX1_steps_43 : decode cX1_steps 43 = .ok (.ireturn, 1) := by decide +kernel
theorem dX1_steps_44 : decode cX1_steps 44 = .ok (.iconst 3, 1) := by decide +kernel
theorem dX1_steps_45 : decode cX1_steps 45 = .ok (.ireturn, 1) := by decide +kernel
theorem dX1_steps_46 : decode cX1_steps 46 = .ok (.iconst 5, 1) := by decide +kernel
theorem dX1_steps_47 : decode cX1_steps 47 = .ok (.ireturn, 1) := by decide +kernel
theorem dX1_steps_48 : decode cX1_steps 48 = .ok (.iconst 2, 1) := by decide +kernel
theorem dX1_steps_49 : decode cX1_steps 49 = .ok (.ireturn, 1) := by decide +kernel
theorem dX1_laughs_0 : decode cX1_laughs 0 = .ok (.iload_n 0, 1) := by decide +kernel
theorem dX1_laughs_1 : decode cX1_laughs 1 = .ok (.tableswitch 56 1 6 #[39, 44, 50, 52, 54, 41], 39) := by decide +kernel
theorem dX1_laughs_40 : decode cX1_laughs 40 = .ok (.iconst 5, 1) := by decide +kernel
theorem dX1_laughs_41 : decode cX1_laughs 41 = .ok (.ireturn, 1) := by decide +kernel
theorem dX1_laughs_42 : decode cX1_laughs 42 = .ok (.bipush 50, 2) := by decide +kernel
theorem dX1_laughs_44 : decode cX1_laughs 44 = .ok (.ireturn, 1) := by decide +kernel
theorem dX1_laughs_45 : decode cX1_laughs 45 = .ok (.iconst 3, 1) := by decide +kernel
theorem dX1_laughs_46 : decode cX1_laughs 46 = .ok (.iload_n 1, 1) := by decide +kernel
theorem dX1_laughs_47 : decode cX1_laughs 47 = .ok (.iconst 3, 1) := by decide +kernel
theorem dX1_laughs_48 : decode cX1_laughs 48 = .ok (.irem, 1) := by decide +kernel
theorem dX1_laughs_49 : decode cX1_laughs 49 = .ok (.iadd, 1) := by decide +kernel
theorem dX1_laughs_50 : decode cX1_laughs 50 = .ok (.ireturn, 1) := by decide +kernel
theorem dX1_laughs_51 : decode cX1_laughs 51 = .ok (.iconst 0, 1) := by decide +kernel
theorem dX1_laughs_52 : decode cX1_laughs 52 = .ok (.ireturn, 1) := by decide +kernel
theorem dX1_laughs_53 : decode cX1_laughs 53 = .ok (.iconst 1, 1) := by decide +kernel
theorem dX1_laughs_54 : decode cX1_laughs 54 = .ok (.ireturn, 1) := by decide +kernel
theorem dX1_laughs_55 : decode cX1_laughs 55 = .ok (.iconst 2, 1) := by decide +kernel
theorem dX1_laughs_56 : decode cX1_laughs 56 = .ok (.ireturn, 1) := by decide +kernel
theorem dX1_laughs_57 : decode cX1_laughs 57 = .ok (.iconst 3, 1) := by decide +kernel
theorem dX1_laughs_58 : decode cX1_laughs 58 = .ok (.ireturn, 1) := by decide +kernel
theorem dX1_laces_0 : decode cX1_laces 0 = .ok (.iload_n 0, 1) := by decide +kernel
end
section
/-! ===== the abstract machine: a memory of numbered cells, states of a method, rows ===== -/
abbrev aC : Type := (Nat × (Nat → Int32)) ⊕ ((Nat × Nat × (Nat → Option Nat)) ⊕ (Nat × List Value))
abbrev aI (n : Nat) (f : Nat → Int32) : aC := .inl (n, f)
abbrev aR (t n : Nat) (f : Nat → Option Nat) : aC := .inr (.inl (t, n, f))
abbrev aO (ci : Nat) (fs : List Value) : aC := .inr (.inr (ci, fs))
/-- D, the first address, the array classes, the addresses of what lay there before (1000 and on) -/
abbrev aG : Type := va_G × Nat × (Nat → ClassId) × (Nat → Nat)
abbrev aM : Type := MethodName × ByteArray × Nat × Option FieldType × Room × Nat × Nat
def a_ad (Γ : aG) (i : Nat) : Nat := if i < 1000 then Γ.2.1 + i else Γ.2.2.2 i
def a_v (Γ : aG) (v : Value) : Value := match v with
  | .ref i => .ref (a_ad Γ i)
  | w => w
def a_e (Γ : aG) (x : aC) : va_E := match x with
  | .inl (n, f) => .inl (Γ.2.2.1 0, n, .inl f)
  | .inr (.inl (t, n, f)) => .inl (Γ.2.2.1 t, n, .inr (.inr (.inr (.inr (fun j => (f j).map (a_ad Γ))))))
  | .inr (.inr (ci, fs)) => .inr (ci, fs.map (a_v Γ))
def a_w (Γ : aG) (n : Nat) (M : Nat → aC) : va_W := (List.range n).map (fun i => (Γ.2.1 + i, a_e Γ (M i)))
def a_A (Γ : aG) : Nat → Prop := fun q => Γ.2.1 ≤ q
def a_up (M : Nat → aC) (i : Nat) (x : aC) : Nat → aC := fun j => if j = i then x else M j
abbrev a_ty (Γ : aG) : List (ClassId × FieldType) := [(Γ.2.2.1 0, .int), (Γ.2.2.1 1, .array .int), (Γ.2.2.1 2, .object "java/lang/String")]
abbrev a_L (Γ : aG) (L : List (Nat × Value)) : List (Nat × Value) := L.map (fun q => (q.1, a_v Γ q.2))
theorem a_v_cat (Γ : aG) (v : Value) : (a_v Γ v).category = v.category := by cases v <;> rfl
theorem a_ad_lt {Γ : aG} {i : Nat} (h : i < 1000) : a_ad Γ i = Γ.2.1 + i := if_pos h
theorem a_w_at {Γ : aG} {n i : Nat} {M : Nat → aC} (h : i < n) : (a_w Γ n M)[i]? = some (Γ.2.1 + i, a_e Γ (M i)) := by
  unfold a_w
  rw [List.getElem?_map, List.getElem?_range h]
  rfl
theorem a_w_of {Γ : aG} {n k : Nat} {M : Nat → aC} {q : Nat × va_E} (h : (a_w Γ n M)[k]? = some q) : k < n ∧ q = (Γ.2.1 + k, a_e Γ (M k)) := by
  have hk : k < n := by
    have := (List.getElem?_eq_some_iff.mp h).1
    simpa [a_w] using this
  rw [a_w_at hk] at h
  exact ⟨hk, (Option.some.inj h).symm⟩
theorem a_w_D {Γ : aG} {n : Nat} {M : Nat → aC} : va_D (a_A Γ) (a_w Γ n M) := by
  refine ⟨fun i j p q hi hj h => ?_, fun k q hk => ?_⟩
  · obtain ⟨-, rfl⟩ := a_w_of hi
    obtain ⟨-, rfl⟩ := a_w_of hj
    exact Nat.add_left_cancel h
  · obtain ⟨-, rfl⟩ := a_w_of hk
    exact Nat.le_add_right _ _
theorem a_w_set {Γ : aG} {n i : Nat} {M : Nat → aC} {x : aC} : (a_w Γ n M).set i (Γ.2.1 + i, a_e Γ x) = a_w Γ n (a_up M i x) := by
  apply List.ext_getElem?
  intro k
  by_cases hk : k < n
  · rw [a_w_at hk]
    by_cases e : k = i
    · subst e
      rw [List.getElem?_set_self (by simpa [a_w] using hk)]
      simp [a_up]
    · rw [List.getElem?_set_ne (Ne.symm e), a_w_at hk]
      simp [a_up, e]
  · rw [List.getElem?_eq_none (by simpa [a_w] using Nat.not_lt.mp hk), List.getElem?_eq_none (by simpa [a_w] using Nat.not_lt.mp hk)]
theorem a_w_push {Γ : aG} {n : Nat} {M : Nat → aC} {x : aC} : a_w Γ n M ++ [(Γ.2.1 + n, a_e Γ x)] = a_w Γ (n + 1) (a_up M n x) := by
  unfold a_w
  rw [List.range_succ, List.map_append]
  congr 1
  · apply List.map_congr_left
    intro a ha
    have := List.mem_range.mp ha
    simp [a_up, Nat.ne_of_lt this]
  · simp [a_up]
/-! statics and strings: what lay there before -/
abbrev a_sA : List (String × String × List Int32) := [("LacedHouse", "GREATEST_SETTING", [999, 9999, 1]), ("LacedHouse", "LEAST_TRAIT", [0, 0, 1, 0, 0, 0]), ("LacedHouse", "GREATEST_TRAIT", [6, 15, 40, 15, 9999, 1]), ("LacedHouse$Kinds", "ABOVE", [-1, 0, 0, 2, 3, 0, 1])]
def a_sa (k : Nat) : String × String × List Int32 := a_sA.getD k ("", "", [])
abbrev a_sS : List (String × Nat × String × List Int32) := [("LacedHouse$Tape", 110, "cook", [99, 111, 111, 107]), ("LacedHouse$Tape", 112, "boy", [98, 111, 121]), ("LacedHouse$Tape", 114, "maid", [109, 97, 105, 100]), ("LacedHouse$Tape", 116, "nurse", [110, 117, 114, 115, 101]), ("LacedHouse$Tape", 118, "dog", [100, 111, 103]), ("LacedHouse$Tape", 120, "explorer", [101, 120, 112, 108, 111, 114, 101, 114]), ("LacedHouse$Tape", 122, "guest", [103, 117, 101, 115, 116]), ("LacedHouse$Tape", 85, "at", [97, 116]), ("LacedHouse$Tape", 91, "size", [115, 105, 122, 101]), ("LacedHouse$Tape", 99, "to", [116, 111]), ("LacedHouse$Tape", 48, "cell", [99, 101, 108, 108]), ("LacedHouse$Tape", 63, "measure", [109, 101, 97, 115, 117, 114, 101]), ("LacedHouse$Tape", 68, "cord", [99, 111, 114, 100]), ("LacedHouseModel", 27, "guest", [103, 117, 101, 115, 116]), ("LacedHouseModel", 29, "cook", [99, 111, 111, 107]), ("LacedHouseModel", 31, "boy", [98, 111, 121]), ("LacedHouseModel", 33, "maid", [109, 97, 105, 100]), ("LacedHouseModel", 35, "nurse", [110, 117, 114, 115, 101]), ("LacedHouseModel", 37, "dog", [100, 111, 103]), ("LacedHouseModel", 39, "explorer", [101, 120, 112, 108, 111, 114, 101, 114]), ("LacedHouseModel", 265, "at", [97, 116]), ("LacedHouseModel", 273, "size", [115, 105, 122, 101]), ("LacedHouseModel", 275, "to", [116, 111]), ("LacedHouseModel", 284, "cell", [99, 101, 108, 108]), ("LacedHouseModel", 286, "measure", [109, 101, 97, 115, 117, 114, 101]), ("LacedHouseModel", 288, "cord", [99, 111, 114, 100])]
def a_ss (k : Nat) : String × Nat × String × List Int32 := a_sS.getD k ("", 0, "", [])
def a_nw : List Cond := [Cond.methodLinkNest "LacedHouse" 28 ⟨"LacedHouse$Sheets", "<init>", "()V"⟩ "LacedHouse", Cond.methodLinkNest "LacedHouse" 35 ⟨"LacedHouse$Tape", "<init>", "()V"⟩ "LacedHouse", Cond.fieldLinkNest "LacedHouse$Tape" 70 "LacedHouse" "GREATEST_SETTING" "[I" "LacedHouse"]
/-- what the method's start gives of what lay there before -/
def a_S (Γ : aG) (U : State) : Prop :=
  (∀ k : Nat, k < 4 → va_Z (a_sa k).1 (a_sa k).2.1 "[I" (.ref (Γ.2.2.2 (1000 + k))) (a_A Γ) U U.heap ∧ va_T .int (Γ.2.2.2 (1000 + k)) (a_sa k).2.2.length (fun j => .int ((a_sa k).2.2.getD j 0)) (a_A Γ) U U.heap) ∧
  (∀ k : Nat, k < 26 → vk_R (a_ss k).1 (a_ss k).2.1 (a_ss k).2.2.1 (Γ.2.2.2 (2000 + k)) U ∧ va_O "java/lang/String" (Γ.2.2.2 (2000 + k)) (a_A Γ) U U.heap ∧ va_OF "java/lang/String" "coder" "B" (.int 0) (Γ.2.2.2 (2000 + k)) (a_A Γ) U U.heap ∧ va_OF "java/lang/String" "value" "[B" (.ref (Γ.2.2.2 (3000 + k))) (Γ.2.2.2 (2000 + k)) (a_A Γ) U U.heap ∧ va_T .byte (Γ.2.2.2 (3000 + k)) (a_ss k).2.2.2.length (fun j => .int ((a_ss k).2.2.2.getD j 0)) (a_A Γ) U U.heap) ∧
  va_Z "java/lang/String" "COMPACT_STRINGS" "Z" (.int 1) (a_A Γ) U U.heap ∧
  (va_Z "jdk/internal/util/Preconditions" "SIOOBE_FORMATTER" "Ljava/util/function/BiFunction;" .null (a_A Γ) U U.heap ∨ va_Z "jdk/internal/util/Preconditions" "SIOOBE_FORMATTER" "Ljava/util/function/BiFunction;" (.ref (Γ.2.2.2 4000)) (a_A Γ) U U.heap) ∧
  (∀ w ∈ a_nw, va_Nw w U) ∧ va_AO "java/lang/String" U ∧ (Cond.arrayOver (.array .int)).before #[] U = true ∧ va_K Γ.1 vwCl (a_ty Γ) U ∧ Γ.2.1 ≤ U.heap.size
theorem a_fi {v v' : Vm} (h : v.Alike v') (f : Class → Bool) (hf : ∀ k : Class, f k.bare = f k) : v'.classes.findIdx? f = v.classes.findIdx? f := by
  have e : ∀ z : Vm, z.bare.classes.findIdx? f = z.classes.findIdx? f := fun z => by
    simp only [Vm.bare, Array.findIdx?_map]
    congr 1
    funext k
    exact hf k
  rw [← e v', ← e v, h.bare_eq]
theorem a_AO {s U : State} (h : s.vm.Alike U.vm) (ty : FieldType) : (Cond.arrayOver ty).before #[] U = (Cond.arrayOver ty).before #[] s := by
  simp only [Cond.before, Cond.holds, Cond.value, h.findClass]
  congr 1
  congr 1
  funext comp
  rw [a_fi h _ (fun k => rfl)]
  congr 1
  funext c
  exact h.class_map _ (fun k r _ _ => rfl) c
theorem a_S.same {Γ : aG} {u U : State} (hv : U.vm = u.vm) (hh : U.heap = u.heap) (h : a_S Γ u) : a_S Γ U := by
  have ha : u.vm.Alike U.vm := by rw [hv]; exact Vm.Alike.refl _
  obtain ⟨h1, h2, h3, h4, h5, h6, h7, h8, h9⟩ := h
  unfold a_S
  rw [hh]
  refine ⟨fun k hk => ⟨(h1 k hk).1.moved ha, (h1 k hk).2.moved ha⟩, fun k hk => ⟨vk_R.same hv (h2 k hk).1, va_O.moved ha (h2 k hk).2.1, va_OF.moved ha (h2 k hk).2.2.1, va_OF.moved ha (h2 k hk).2.2.2.1, va_T.moved ha (h2 k hk).2.2.2.2⟩, h3.moved ha, h4.imp (va_Z.moved ha) (va_Z.moved ha), fun w hw => ?_, ?_, ?_, va_K.moved ha h8, h9⟩
  · have hc : w = Cond.methodLinkNest "LacedHouse" 28 ⟨"LacedHouse$Sheets", "<init>", "()V"⟩ "LacedHouse" ∨ w = Cond.methodLinkNest "LacedHouse" 35 ⟨"LacedHouse$Tape", "<init>", "()V"⟩ "LacedHouse" ∨ w = Cond.fieldLinkNest "LacedHouse$Tape" 70 "LacedHouse" "GREATEST_SETTING" "[I" "LacedHouse" := by simpa [a_nw] using hw
    refine va_Nw.same ?_ hv.symm (h5 w hw)
    rcases hc with rfl | rfl | rfl <;> rfl
  · exact va_AO.moved ha h6
  · exact (a_AO ha _).trans h7
theorem a_S.next {Γ : aG} {s U : State} {H : Heap} {locs : List Loc} (hW : s.WarmedH U.vm) (hU : U.heap = H) (hS : va_S (a_A Γ) s.heap H locs) (h : a_S Γ s) : a_S Γ U := by
  have ha : s.vm.Alike U.vm := hW.alike
  have hq : ∀ a : Nat, a < s.heap.size → ¬ a_A Γ a → U.heap[a]? = s.heap[a]? := fun a g1 g2 => by rw [hU]; exact hS.2.1 a g1 g2
  obtain ⟨h1, h2, h3, h4, h5, h6, h7, h8, h9⟩ := h
  refine ⟨fun k hk => ⟨((h1 k hk).1.kept hq).moved ha, ((h1 k hk).2.kept hq).moved ha⟩, fun k hk => ⟨vk_R.warm hW (h2 k hk).1, va_O.moved ha ((h2 k hk).2.1.kept hq), va_OF.moved ha ((h2 k hk).2.2.1.kept hq), va_OF.moved ha ((h2 k hk).2.2.2.1.kept hq), va_T.moved ha ((h2 k hk).2.2.2.2.kept hq)⟩, (h3.kept hq).moved ha, h4.imp (fun z => (z.kept hq).moved ha) (fun z => (z.kept hq).moved ha), fun w hw => ?_, ?_, ?_, va_K.moved ha h8, by rw [hU]; exact Nat.le_trans h9 hS.1⟩
  · have hc : w = Cond.methodLinkNest "LacedHouse" 28 ⟨"LacedHouse$Sheets", "<init>", "()V"⟩ "LacedHouse" ∨ w = Cond.methodLinkNest "LacedHouse" 35 ⟨"LacedHouse$Tape", "<init>", "()V"⟩ "LacedHouse" ∨ w = Cond.fieldLinkNest "LacedHouse$Tape" 70 "LacedHouse" "GREATEST_SETTING" "[I" "LacedHouse" := by simpa [a_nw] using hw
    have h0 := h5 w hw
    rcases hc with rfl | rfl | rfl
    · exact va_Nw.warmM hW h0
    · exact va_Nw.warmM hW h0
    · exact va_Nw.warmF hW h0
  · exact va_AO.moved ha h6
  · exact (a_AO ha _).trans h7
/-! a method's state -/
def tG : List Cond := lw_tbl.filter goodWord
theorem tG_in {w : Cond} (h : w ∈ lw_tbl) (hg : goodWord w = true) : w ∈ tG := List.mem_filter.mpr ⟨h, hg⟩
theorem tG_good {c : Cond} (hc : c ∈ tG) {big : List Cond} (hb : ∀ w ∈ tG, w ∈ big) : GoodIn big (c :: tG) := by
  have h0 : ∀ w ∈ tG, w ∈ big ∧ ((w.onTables && w.keeps) = true ∨ ∃ ty, w = .arrayClass ty) := fun w hw => ⟨hb w hw, good_of_word (List.mem_filter.mp hw).2⟩
  intro w hw
  rcases List.mem_cons.mp hw with rfl | hw
  · exact h0 _ hc
  · exact h0 _ hw
def a_X (Γ : aG) (μ : aM) (p : Program) (s : State) (m : MethodId) (args : Array Value) (meth : Method) (c : Code) : Prop :=
  p.tables.exec = Jvm.exec ∧ c.code = μ.2.1 ∧ meth.sig.returnType = μ.2.2.2.1 ∧ c.maxLocals = μ.2.2.1 ∧ s.vm.findClass μ.1.cls = some m.cls ∧ (∀ w ∈ tG, w.before args s = true) ∧ meth.locks = false ∧ meth.name = μ.1.name ∧ a_S Γ s
def a_W (Γ : aG) (s : State) (n k1 : Nat) (M : Nat → aC) (H : Heap) (locs : List Loc) : Prop :=
  va_P Γ.1 vwCl (a_w Γ n M) H ∧ s.heap.size + k1 = Γ.2.1 + n ∧ va_S (a_A Γ) s.heap H locs ∧ n ≤ 1000
def a_Q (Γ : aG) (r : Option Value) (n : Nat) (M : Nat → aC) : Array Value → State → Outcome → State → Prop := fun _ st oc t =>
  oc = .returned (r.map (a_v Γ)) ∧ va_P Γ.1 vwCl (a_w Γ n M) t.heap ∧ n ≤ 1000 ∧ va_F (a_A Γ) st t
/-- at pc, with these locals, this stack, this memory of n cells, k1 cells of k2 slots new: the method comes to its end with r, n', M' -/
def Fr (Γ : aG) (l : Launch) (μ : aM) (pc : Nat) (L : List (Nat × Value)) (st : List Value) (n k1 k2 : Nat) (M : Nat → aC) (r : Option Value) (n' : Nat) (M' : Nat → aC) : Prop :=
  ∀ (p : Program) (e : Env) (s : State) (m : MethodId) (args : Array Value) (below : List Frame) (meth : Method) (c : Code) (H : Heap) (locs : List Loc) (ls : Array Slot),
    a_X Γ μ p s m args meth c → a_W Γ s n k1 M H locs → lv_has ls μ.2.2.1 (a_L Γ L) →
    W p l e μ.2.2.2.2.1 s m args below meth c H locs k1 k2 (MQ below (a_Q Γ r n' M') args s μ.2.2.2.2.2.1 μ.2.2.2.2.2.2 (a_A Γ)) (F0 m pc ls (st.map (a_v Γ)))
def a_P (Γ : aG) (as : List Value) (n : Nat) (M : Nat → aC) : Array Value → State → Prop := fun v U =>
  v = (as.map (a_v Γ)).toArray ∧ a_S Γ U ∧ va_P Γ.1 vwCl (a_w Γ n M) U.heap ∧ U.heap.size = Γ.2.1 + n ∧ n ≤ 1000
/-- the method, called with these, answers so -/
def Ev (Γ : aG) (l : Launch) (μ : aM) (as : List Value) (n : Nat) (M : Nat → aC) (r : Option Value) (n' : Nat) (M' : Nat → aC) : Prop :=
  Met l μ.1 (.code μ.1 μ.2.1 μ.2.2.1 μ.2.2.2.1 :: tG) μ.2.2.2.2.1 (a_P Γ as n M) (a_Q Γ r n' M') μ.2.2.2.2.2.1 μ.2.2.2.2.2.2 (a_A Γ)
theorem a_blind {Γ : aG} {as : List Value} {n : Nat} {M : Nat → aC} : FrameBlind (a_P Γ as n M) := fun a U g mk q => ⟨q.1, a_S.same (u := U) rfl rfl q.2.1, q.2.2⟩
theorem a_lk : ∀ {L : List (Nat × Value)} {i : Nat} {v : Value}, L.lookup i = some v → (i, v) ∈ L
  | [], _, _, h => by simp at h
  | (j, w) :: L, i, v, h => by
    rw [List.lookup_cons] at h
    by_cases e : (i == j) = true
    · rw [e] at h
      have : i = j := by simpa using e
      cases h
      rw [this]
      exact List.mem_cons_self
    · have e' : (i == j) = false := by simpa using e
      rw [e'] at h
      exact List.mem_cons_of_mem _ (a_lk h)
theorem a_at {Γ : aG} {ls : Array Slot} {nL : Nat} {L : List (Nat × Value)} {i : Nat} {v : Value} (hl : lv_has ls nL (a_L Γ L)) (h : L.lookup i = some v) : ls[i]? = some (.val (a_v Γ v)) :=
  hl.2.2 (i, a_v Γ v) (List.mem_map.mpr ⟨(i, v), a_lk h, rfl⟩)
theorem Ev.of {Γ : aG} {l : Launch} {y : MethodName} {cc : ByteArray} {nL : Nat} {ret : Option FieldType} {R : Room} {mc ms : Nat} {as : List Value} {n : Nat} {M : Nat → aC} {r : Option Value} {n' : Nat} {M' : Nat → aC} (L : List (Nat × Value))
    (hy : plainName y.cls = true) (hlen : (lg_sl (as.map (a_v Γ))).length ≤ nL) (hL : lv_args 0 (as.map (a_v Γ)) = a_L Γ L)
    (k : Fr Γ l (y, cc, nL, ret, R, mc, ms) 0 L [] n 0 0 M r n' M') : Ev Γ l (y, cc, nL, ret, R, mc, ms) as n M r n' M' := by
  refine Met.ofW (cc := cc) (maxL := nL) (ret := ret) hy rfl ?_
  intro p e s m args below meth c s₁ B hml hv
  obtain ⟨rfl, hS, hP, hz, hn⟩ := hv
  have hts := atoms_spec (ws := .code y cc nL ret :: tG) B.pre
  rw [lg_entry_eq]
  exact k p e s m _ below meth c s.heap [] _ ⟨B.exec, B.bytes, B.returns, hml, findClass_of_methodNamed B.named, fun w h => hts w (List.mem_cons_of_mem _ h), B.notSynchronized, (name_of_methodNamed B.named B.method).1, hS⟩ ⟨hP, hz, va_S.rf, hn⟩ (by rw [← hL]; exact lv_entry _ hlen)
section A1
variable {Γ : aG} {l : Launch} {y : MethodName} {cc : ByteArray} {nL : Nat} {ret : Option FieldType} {R : Room} {mc ms : Nat} {pc : Nat} {L : List (Nat × Value)} {st : List Value} {n k1 k2 : Nat} {M : Nat → aC} {r : Option Value} {n' : Nat} {M' : Nat → aC}
theorem fr_iconst {z : Int} {v : Int32} (hv : Int32.ofInt z = v) (hd : decode cc pc = .ok (.iconst z, 1)) (k : Fr Γ l (y, cc, nL, ret, R, mc, ms) (pc + 1) L (.int v :: st) n k1 k2 M r n' M') : Fr Γ l (y, cc, nL, ret, R, mc, ms) pc L st n k1 k2 M r n' M' := by
  intro p e s m args below meth c H locs ls C w hl
  exact lv_iconst C.1 C.2.1 hd hv (k p e s m args below meth c H locs ls C w hl)
theorem fr_bipush {z : Int} {v : Int32} (hv : (Int8.ofInt z).toInt32 = v) (hd : decode cc pc = .ok (.bipush z, 2)) (k : Fr Γ l (y, cc, nL, ret, R, mc, ms) (pc + 2) L (.int v :: st) n k1 k2 M r n' M') : Fr Γ l (y, cc, nL, ret, R, mc, ms) pc L st n k1 k2 M r n' M' := by
  intro p e s m args below meth c H locs ls C w hl
  exact lv_bipush C.1 C.2.1 hd hv (k p e s m args below meth c H locs ls C w hl)
theorem fr_sipush {z : Int} {v : Int32} (hv : (Int16.ofInt z).toInt32 = v) (hd : decode cc pc = .ok (.sipush z, 3)) (k : Fr Γ l (y, cc, nL, ret, R, mc, ms) (pc + 3) L (.int v :: st) n k1 k2 M r n' M') : Fr Γ l (y, cc, nL, ret, R, mc, ms) pc L st n k1 k2 M r n' M' := by
  intro p e s m args below meth c H locs ls C w hl
  exact lv_sipush C.1 C.2.1 hd hv (k p e s m args below meth c H locs ls C w hl)
theorem fr_lconst {z : Fin 2} {v : Int64} (hv : Int64.ofNat (z : Nat) = v) (hd : decode cc pc = .ok (.lconst z, 1)) (k : Fr Γ l (y, cc, nL, ret, R, mc, ms) (pc + 1) L (.long v :: st) n k1 k2 M r n' M') : Fr Γ l (y, cc, nL, ret, R, mc, ms) pc L st n k1 k2 M r n' M' := by
  intro p e s m args below meth c H locs ls C w hl
  exact lv_lconst C.1 C.2.1 hd hv (k p e s m args below meth c H locs ls C w hl)
theorem fr_iload_n {j : Fin 4} {x : Int32} (h : L.lookup (j : Nat) = some (.int x)) (hd : decode cc pc = .ok (.iload_n j, 1)) (k : Fr Γ l (y, cc, nL, ret, R, mc, ms) (pc + 1) L (.int x :: st) n k1 k2 M r n' M') : Fr Γ l (y, cc, nL, ret, R, mc, ms) pc L st n k1 k2 M r n' M' := by
  intro p e s m args below meth c H locs ls C w hl
  exact lv_iload_n C.1 C.2.1 hd rfl (a_at hl h) (k p e s m args below meth c H locs ls C w hl)
theorem fr_iload {i : Nat} {x : Int32} (h : L.lookup i = some (.int x)) (hd : decode cc pc = .ok (.iload i, 2)) (k : Fr Γ l (y, cc, nL, ret, R, mc, ms) (pc + 2) L (.int x :: st) n k1 k2 M r n' M') : Fr Γ l (y, cc, nL, ret, R, mc, ms) pc L st n k1 k2 M r n' M' := by
  intro p e s m args below meth c H locs ls C w hl
  exact lv_iload C.1 C.2.1 hd (a_at hl h) (k p e s m args below meth c H locs ls C w hl)
theorem fr_lload {i : Nat} {x : Int64} (h : L.lookup i = some (.long x)) (hd : decode cc pc = .ok (.lload i, 2)) (k : Fr Γ l (y, cc, nL, ret, R, mc, ms) (pc + 2) L (.long x :: st) n k1 k2 M r n' M') : Fr Γ l (y, cc, nL, ret, R, mc, ms) pc L st n k1 k2 M r n' M' := by
  intro p e s m args below meth c H locs ls C w hl
  exact lv_lload C.1 C.2.1 hd (a_at hl h) (k p e s m args below meth c H locs ls C w hl)
theorem fr_aload_n {j : Fin 4} {x : Nat} (h : L.lookup (j : Nat) = some (.ref x)) (hd : decode cc pc = .ok (.aload_n j, 1)) (k : Fr Γ l (y, cc, nL, ret, R, mc, ms) (pc + 1) L (.ref x :: st) n k1 k2 M r n' M') : Fr Γ l (y, cc, nL, ret, R, mc, ms) pc L st n k1 k2 M r n' M' := by
  intro p e s m args below meth c H locs ls C w hl
  exact lv_aload_n C.1 C.2.1 hd rfl (a_at hl h) (k p e s m args below meth c H locs ls C w hl)
theorem fr_aload {i : Nat} {x : Nat} (h : L.lookup i = some (.ref x)) (hd : decode cc pc = .ok (.aload i, 2)) (k : Fr Γ l (y, cc, nL, ret, R, mc, ms) (pc + 2) L (.ref x :: st) n k1 k2 M r n' M') : Fr Γ l (y, cc, nL, ret, R, mc, ms) pc L st n k1 k2 M r n' M' := by
  intro p e s m args below meth c H locs ls C w hl
  exact lv_aload C.1 C.2.1 hd (a_at hl h) (k p e s m args below meth c H locs ls C w hl)
theorem fr_iadd {x z : Int32} (hd : decode cc pc = .ok (.iadd, 1)) (k : Fr Γ l (y, cc, nL, ret, R, mc, ms) (pc + 1) L (.int (x + z) :: st) n k1 k2 M r n' M') : Fr Γ l (y, cc, nL, ret, R, mc, ms) pc L (.int z :: .int x :: st) n k1 k2 M r n' M' := by
  intro p e s m args below meth c H locs ls C w hl
  exact lv_iadd C.1 C.2.1 hd (k p e s m args below meth c H locs ls C w hl)
theorem fr_isub {x z : Int32} (hd : decode cc pc = .ok (.isub, 1)) (k : Fr Γ l (y, cc, nL, ret, R, mc, ms) (pc + 1) L (.int (x - z) :: st) n k1 k2 M r n' M') : Fr Γ l (y, cc, nL, ret, R, mc, ms) pc L (.int z :: .int x :: st) n k1 k2 M r n' M' := by
  intro p e s m args below meth c H locs ls C w hl
  exact lv_isub C.1 C.2.1 hd (k p e s m args below meth c H locs ls C w hl)
theorem fr_imul {x z : Int32} (hd : decode cc pc = .ok (.imul, 1)) (k : Fr Γ l (y, cc, nL, ret, R, mc, ms) (pc + 1) L (.int (x * z) :: st) n k1 k2 M r n' M') : Fr Γ l (y, cc, nL, ret, R, mc, ms) pc L (.int z :: .int x :: st) n k1 k2 M r n' M' := by
  intro p e s m args below meth c H locs ls C w hl
  exact lv_imul C.1 C.2.1 hd (k p e s m args below meth c H locs ls C w hl)
theorem fr_iand {x z : Int32} (hd : decode cc pc = .ok (.iand, 1)) (k : Fr Γ l (y, cc, nL, ret, R, mc, ms) (pc + 1) L (.int (x &&& z) :: st) n k1 k2 M r n' M') : Fr Γ l (y, cc, nL, ret, R, mc, ms) pc L (.int z :: .int x :: st) n k1 k2 M r n' M' := by
  intro p e s m args below meth c H locs ls C w hl
  exact lv_iand C.1 C.2.1 hd (k p e s m args below meth c H locs ls C w hl)
theorem fr_ior {x z : Int32} (hd : decode cc pc = .ok (.ior, 1)) (k : Fr Γ l (y, cc, nL, ret, R, mc, ms) (pc + 1) L (.int (x ||| z) :: st) n k1 k2 M r n' M') : Fr Γ l (y, cc, nL, ret, R, mc, ms) pc L (.int z :: .int x :: st) n k1 k2 M r n' M' := by
  intro p e s m args below meth c H locs ls C w hl
  exact lv_ior C.1 C.2.1 hd (k p e s m args below meth c H locs ls C w hl)
theorem fr_idiv {x z : Int32} (h : ¬ z = 0) (hd : decode cc pc = .ok (.idiv, 1)) (k : Fr Γ l (y, cc, nL, ret, R, mc, ms) (pc + 1) L (.int (x / z) :: st) n k1 k2 M r n' M') : Fr Γ l (y, cc, nL, ret, R, mc, ms) pc L (.int z :: .int x :: st) n k1 k2 M r n' M' := by
  intro p e s m args below meth c H locs ls C w hl
  exact lv_idiv C.1 C.2.1 hd h (k p e s m args below meth c H locs ls C w hl)
theorem fr_irem {x z : Int32} (h : ¬ z = 0) (hd : decode cc pc = .ok (.irem, 1)) (k : Fr Γ l (y, cc, nL, ret, R, mc, ms) (pc + 1) L (.int (x % z) :: st) n k1 k2 M r n' M') : Fr Γ l (y, cc, nL, ret, R, mc, ms) pc L (.int z :: .int x :: st) n k1 k2 M r n' M' := by
  intro p e s m args below meth c H locs ls C w hl
  refine lv_irem C.1 C.2.1 hd h ?_
  rw [irem_eq_mod]
  exact k p e s m args below meth c H locs ls C w hl
theorem fr_ishl {x z : Int32} (hd : decode cc pc = .ok (.ishl, 1)) (k : Fr Γ l (y, cc, nL, ret, R, mc, ms) (pc + 1) L (.int (x <<< (z &&& 31)) :: st) n k1 k2 M r n' M') : Fr Γ l (y, cc, nL, ret, R, mc, ms) pc L (.int z :: .int x :: st) n k1 k2 M r n' M' := by
  intro p e s m args below meth c H locs ls C w hl
  exact lv_ishl C.1 C.2.1 hd (k p e s m args below meth c H locs ls C w hl)
theorem fr_ishr {x z : Int32} (hd : decode cc pc = .ok (.ishr, 1)) (k : Fr Γ l (y, cc, nL, ret, R, mc, ms) (pc + 1) L (.int (x >>> (z &&& 31)) :: st) n k1 k2 M r n' M') : Fr Γ l (y, cc, nL, ret, R, mc, ms) pc L (.int z :: .int x :: st) n k1 k2 M r n' M' := by
  intro p e s m args below meth c H locs ls C w hl
  exact lv_ishr C.1 C.2.1 hd (k p e s m args below meth c H locs ls C w hl)
theorem fr_iushr {x z : Int32} (hd : decode cc pc = .ok (.iushr, 1)) (k : Fr Γ l (y, cc, nL, ret, R, mc, ms) (pc + 1) L (.int ((x.toUInt32 >>> (z.toUInt32 &&& Int32.toUInt32 31)).toInt32) :: st) n k1 k2 M r n' M') : Fr Γ l (y, cc, nL, ret, R, mc, ms) pc L (.int z :: .int x :: st) n k1 k2 M r n' M' := by
  intro p e s m args below meth c H locs ls C w hl
  exact lv_iushr C.1 C.2.1 hd rfl (k p e s m args below meth c H locs ls C w hl)
theorem fr_ladd {x z : Int64} (hd : decode cc pc = .ok (.ladd, 1)) (k : Fr Γ l (y, cc, nL, ret, R, mc, ms) (pc + 1) L (.long (x + z) :: st) n k1 k2 M r n' M') : Fr Γ l (y, cc, nL, ret, R, mc, ms) pc L (.long z :: .long x :: st) n k1 k2 M r n' M' := by
  intro p e s m args below meth c H locs ls C w hl
  exact lv_ladd C.1 C.2.1 hd (k p e s m args below meth c H locs ls C w hl)
theorem fr_lmul {x z : Int64} (hd : decode cc pc = .ok (.lmul, 1)) (k : Fr Γ l (y, cc, nL, ret, R, mc, ms) (pc + 1) L (.long (x * z) :: st) n k1 k2 M r n' M') : Fr Γ l (y, cc, nL, ret, R, mc, ms) pc L (.long z :: .long x :: st) n k1 k2 M r n' M' := by
  intro p e s m args below meth c H locs ls C w hl
  exact lv_lmul C.1 C.2.1 hd (k p e s m args below meth c H locs ls C w hl)
theorem fr_lcmp {x z : Int64} (hd : decode cc pc = .ok (.lcmp, 1)) (k : Fr Γ l (y, cc, nL, ret, R, mc, ms) (pc + 1) L (.int (lg_cmp x z) :: st) n k1 k2 M r n' M') : Fr Γ l (y, cc, nL, ret, R, mc, ms) pc L (.long z :: .long x :: st) n k1 k2 M r n' M' := by
  intro p e s m args below meth c H locs ls C w hl
  exact W.lcmp C.1 C.2.1 hd (k p e s m args below meth c H locs ls C w hl)
theorem fr_i2l {x : Int32} (hd : decode cc pc = .ok (.i2l, 1)) (k : Fr Γ l (y, cc, nL, ret, R, mc, ms) (pc + 1) L (.long x.toInt64 :: st) n k1 k2 M r n' M') : Fr Γ l (y, cc, nL, ret, R, mc, ms) pc L (.int x :: st) n k1 k2 M r n' M' := by
  intro p e s m args below meth c H locs ls C w hl
  exact lv_i2l C.1 C.2.1 hd rfl (k p e s m args below meth c H locs ls C w hl)
theorem fr_i2b {x : Int32} (hd : decode cc pc = .ok (.i2b, 1)) (k : Fr Γ l (y, cc, nL, ret, R, mc, ms) (pc + 1) L (.int x.toInt8.toInt32 :: st) n k1 k2 M r n' M') : Fr Γ l (y, cc, nL, ret, R, mc, ms) pc L (.int x :: st) n k1 k2 M r n' M' := by
  intro p e s m args below meth c H locs ls C w hl
  exact lv_i2b C.1 C.2.1 hd rfl (k p e s m args below meth c H locs ls C w hl)
theorem fr_i2s {x : Int32} (hd : decode cc pc = .ok (.i2s, 1)) (k : Fr Γ l (y, cc, nL, ret, R, mc, ms) (pc + 1) L (.int x.toInt16.toInt32 :: st) n k1 k2 M r n' M') : Fr Γ l (y, cc, nL, ret, R, mc, ms) pc L (.int x :: st) n k1 k2 M r n' M' := by
  intro p e s m args below meth c H locs ls C w hl
  exact lv_i2s C.1 C.2.1 hd rfl (k p e s m args below meth c H locs ls C w hl)
theorem fr_i2c {x : Int32} (hd : decode cc pc = .ok (.i2c, 1)) (k : Fr Γ l (y, cc, nL, ret, R, mc, ms) (pc + 1) L (.int (x.toUInt32 % 65536).toInt32 :: st) n k1 k2 M r n' M') : Fr Γ l (y, cc, nL, ret, R, mc, ms) pc L (.int x :: st) n k1 k2 M r n' M' := by
  intro p e s m args below meth c H locs ls C w hl
  exact lv_i2c C.1 C.2.1 hd rfl (k p e s m args below meth c H locs ls C w hl)
theorem fr_dup {v : Value} (h : v.category = 1) (hd : decode cc pc = .ok (.dup, 1)) (k : Fr Γ l (y, cc, nL, ret, R, mc, ms) (pc + 1) L (v :: v :: st) n k1 k2 M r n' M') : Fr Γ l (y, cc, nL, ret, R, mc, ms) pc L (v :: st) n k1 k2 M r n' M' := by
  intro p e s m args below meth c H locs ls C w hl
  exact lv_dup C.1 C.2.1 hd ((a_v_cat Γ v).trans h) (k p e s m args below meth c H locs ls C w hl)
theorem fr_pop {v : Value} (h : v.category = 1) (hd : decode cc pc = .ok (.pop, 1)) (k : Fr Γ l (y, cc, nL, ret, R, mc, ms) (pc + 1) L st n k1 k2 M r n' M') : Fr Γ l (y, cc, nL, ret, R, mc, ms) pc L (v :: st) n k1 k2 M r n' M' := by
  intro p e s m args below meth c H locs ls C w hl
  exact lv_pop C.1 C.2.1 hd ((a_v_cat Γ v).trans h) (k p e s m args below meth c H locs ls C w hl)
theorem fr_dup2 {v u : Value} (h : v.category = 1) (g : u.category = 1) (hd : decode cc pc = .ok (.dup2, 1)) (k : Fr Γ l (y, cc, nL, ret, R, mc, ms) (pc + 1) L (v :: u :: v :: u :: st) n k1 k2 M r n' M') : Fr Γ l (y, cc, nL, ret, R, mc, ms) pc L (v :: u :: st) n k1 k2 M r n' M' := by
  intro p e s m args below meth c H locs ls C w hl
  exact lv_dup2_11 C.1 C.2.1 hd ((a_v_cat Γ v).trans h) ((a_v_cat Γ u).trans g) (k p e s m args below meth c H locs ls C w hl)
theorem a_flt (Γ : aG) (x : Nat × Value) (f : Nat × Value → Bool) {g : Nat × Value → Bool} {L : List (Nat × Value)} (h : ∀ q : Nat × Value, g (q.1, a_v Γ q.2) = f q) : (x.1, a_v Γ x.2) :: (a_L Γ L).filter g = a_L Γ (x :: L.filter f) := by
  show _ = (x.1, a_v Γ x.2) :: (L.filter f).map _
  congr 1
  unfold a_L
  rw [List.filter_map]
  congr 1
  apply List.filter_congr
  intro q _
  exact h q
theorem fr_istore_n {j : Fin 4} {x : Int32} (L1 : List (Nat × Value)) (hn : (j : Nat) < nL) (hL : ((j : Nat), .int x) :: L.filter (fun q => !(q.1 == (j : Nat)) && !(q.1 + 1 == (j : Nat) && q.2.category == 2)) = L1) (hd : decode cc pc = .ok (.istore_n j, 1)) (k : Fr Γ l (y, cc, nL, ret, R, mc, ms) (pc + 1) L1 st n k1 k2 M r n' M') : Fr Γ l (y, cc, nL, ret, R, mc, ms) pc L (.int x :: st) n k1 k2 M r n' M' := by
  intro p e s m args below meth c H locs ls C w hl
  exact lv_istore_n C.1 C.2.1 hd rfl hl hn (lv' := a_L Γ L1) (by rw [← hL]; refine a_flt Γ ((j : Nat), .int x) _ ?_; intro q; simp only [a_v_cat]) (fun ls hl => k p e s m args below meth c H locs ls C w hl)
theorem fr_istore {i : Nat} {x : Int32} (L1 : List (Nat × Value)) (hn : i < nL) (hL : (i, .int x) :: L.filter (fun q => !(q.1 == i) && !(q.1 + 1 == i && q.2.category == 2)) = L1) (hd : decode cc pc = .ok (.istore i, 2)) (k : Fr Γ l (y, cc, nL, ret, R, mc, ms) (pc + 2) L1 st n k1 k2 M r n' M') : Fr Γ l (y, cc, nL, ret, R, mc, ms) pc L (.int x :: st) n k1 k2 M r n' M' := by
  intro p e s m args below meth c H locs ls C w hl
  exact lv_istore C.1 C.2.1 hd hl hn (lv' := a_L Γ L1) (by rw [← hL]; refine a_flt Γ (i, .int x) _ ?_; intro q; simp only [a_v_cat]) (fun ls hl => k p e s m args below meth c H locs ls C w hl)
theorem fr_astore_n {j : Fin 4} {x : Nat} (L1 : List (Nat × Value)) (hn : (j : Nat) < nL) (hL : ((j : Nat), .ref x) :: L.filter (fun q => !(q.1 == (j : Nat)) && !(q.1 + 1 == (j : Nat) && q.2.category == 2)) = L1) (hd : decode cc pc = .ok (.astore_n j, 1)) (k : Fr Γ l (y, cc, nL, ret, R, mc, ms) (pc + 1) L1 st n k1 k2 M r n' M') : Fr Γ l (y, cc, nL, ret, R, mc, ms) pc L (.ref x :: st) n k1 k2 M r n' M' := by
  intro p e s m args below meth c H locs ls C w hl
  exact lv_astore_n C.1 C.2.1 hd rfl hl hn (lv' := a_L Γ L1) (by rw [← hL]; refine a_flt Γ ((j : Nat), .ref x) _ ?_; intro q; simp only [a_v_cat]) (fun ls hl => k p e s m args below meth c H locs ls C w hl)
theorem fr_astore {i : Nat} {x : Nat} (L1 : List (Nat × Value)) (hn : i < nL) (hL : (i, .ref x) :: L.filter (fun q => !(q.1 == i) && !(q.1 + 1 == i && q.2.category == 2)) = L1) (hd : decode cc pc = .ok (.astore i, 2)) (k : Fr Γ l (y, cc, nL, ret, R, mc, ms) (pc + 2) L1 st n k1 k2 M r n' M') : Fr Γ l (y, cc, nL, ret, R, mc, ms) pc L (.ref x :: st) n k1 k2 M r n' M' := by
  intro p e s m args below meth c H locs ls C w hl
  exact lv_astore C.1 C.2.1 hd hl hn (lv' := a_L Γ L1) (by rw [← hL]; refine a_flt Γ (i, .ref x) _ ?_; intro q; simp only [a_v_cat]) (fun ls hl => k p e s m args below meth c H locs ls C w hl)
theorem fr_lstore {i : Nat} {x : Int64} (L1 : List (Nat × Value)) (hn : i + 1 < nL) (hL : (i, .long x) :: L.filter (fun q => !(q.1 == i) && (!(q.1 == i + 1) && !(q.1 + 1 == i && q.2.category == 2))) = L1) (hd : decode cc pc = .ok (.lstore i, 2)) (k : Fr Γ l (y, cc, nL, ret, R, mc, ms) (pc + 2) L1 st n k1 k2 M r n' M') : Fr Γ l (y, cc, nL, ret, R, mc, ms) pc L (.long x :: st) n k1 k2 M r n' M' := by
  intro p e s m args below meth c H locs ls C w hl
  exact lv_lstore C.1 C.2.1 hd hl hn (lv' := a_L Γ L1) (by rw [← hL]; refine a_flt Γ (i, .long x) _ ?_; intro q; simp only [a_v_cat]) (fun ls hl => k p e s m args below meth c H locs ls C w hl)
theorem fr_iinc {i : Nat} {z : Int} {x : Int32} (L1 : List (Nat × Value)) (h : L.lookup i = some (.int x)) (hn : i < nL) (hL : (i, .int (x + Int32.ofInt z)) :: L.filter (fun q => !(q.1 == i) && !(q.1 + 1 == i && q.2.category == 2)) = L1) (hd : decode cc pc = .ok (.iinc i z, 3)) (k : Fr Γ l (y, cc, nL, ret, R, mc, ms) (pc + 3) L1 st n k1 k2 M r n' M') : Fr Γ l (y, cc, nL, ret, R, mc, ms) pc L st n k1 k2 M r n' M' := by
  intro p e s m args below meth c H locs ls C w hl
  obtain ⟨j, hj⟩ := List.getElem?_of_mem (List.mem_map.mpr ⟨(i, .int x), a_lk h, rfl⟩ : (i, a_v Γ (.int x)) ∈ a_L Γ L)
  exact lv_iinc C.1 C.2.1 hd hl hj rfl hn (lv' := a_L Γ L1) (by rw [← hL]; refine a_flt Γ (i, .int (x + Int32.ofInt z)) _ ?_; intro q; simp only [a_v_cat]) (fun ls hl => k p e s m args below meth c H locs ls C w hl)
theorem a_pick {Γ : aG} {L : List (Nat × Value)} {ks : List Nat} : lv_pick (a_L Γ L) ks = a_L Γ (lv_pick L ks) := by
  unfold lv_pick a_L
  rw [List.map_filterMap]
  congr 1
  funext k
  rw [List.getElem?_map]
theorem fr_sub (ks : List Nat) {L1 : List (Nat × Value)} (hL : lv_pick L ks = L1) (k : Fr Γ l (y, cc, nL, ret, R, mc, ms) pc L1 st n k1 k2 M r n' M') : Fr Γ l (y, cc, nL, ret, R, mc, ms) pc L st n k1 k2 M r n' M' := by
  intro p e s m args below meth c H locs ls C w hl
  exact k p e s m args below meth c H locs ls C w (lv_sub hl ks (by rw [← hL]; exact a_pick))
theorem fr_nm {x : Int32} (k : ∀ z : Int32, z = x → Fr Γ l (y, cc, nL, ret, R, mc, ms) pc L (.int z :: st) n k1 k2 M r n' M') : Fr Γ l (y, cc, nL, ret, R, mc, ms) pc L (.int x :: st) n k1 k2 M r n' M' := k x rfl
theorem fr_eq {x z : Int32} (h : x = z) (k : Fr Γ l (y, cc, nL, ret, R, mc, ms) pc L (.int z :: st) n k1 k2 M r n' M') : Fr Γ l (y, cc, nL, ret, R, mc, ms) pc L (.int x :: st) n k1 k2 M r n' M' := h ▸ k
theorem fr_mem {M1 : Nat → aC} (h : M = M1) (k : Fr Γ l (y, cc, nL, ret, R, mc, ms) pc L st n k1 k2 M1 r n' M') : Fr Γ l (y, cc, nL, ret, R, mc, ms) pc L st n k1 k2 M r n' M' := h ▸ k
theorem fr_if_eq {x : Int32} {off : Int} (tgt : Nat) (ht : (pc : Int) + off = (tgt : Int)) (hd : decode cc pc = .ok (.ifCond .eq off, 3)) (kt : x = 0 → Fr Γ l (y, cc, nL, ret, R, mc, ms) tgt L st n k1 k2 M r n' M') (kf : ¬ x = 0 → Fr Γ l (y, cc, nL, ret, R, mc, ms) (pc + 3) L st n k1 k2 M r n' M') : Fr Γ l (y, cc, nL, ret, R, mc, ms) pc L (.int x :: st) n k1 k2 M r n' M' := by
  intro p e s m args below meth c H locs ls C w hl
  exact lv_if_eq C.1 C.2.1 hd ht (fun q => kt q p e s m args below meth c H locs ls C w hl) (fun q => kf q p e s m args below meth c H locs ls C w hl)
theorem fr_icmp_eq {x z : Int32} {off : Int} (tgt : Nat) (ht : (pc : Int) + off = (tgt : Int)) (hd : decode cc pc = .ok (.if_icmp .eq off, 3)) (kt : x = z → Fr Γ l (y, cc, nL, ret, R, mc, ms) tgt L st n k1 k2 M r n' M') (kf : ¬ x = z → Fr Γ l (y, cc, nL, ret, R, mc, ms) (pc + 3) L st n k1 k2 M r n' M') : Fr Γ l (y, cc, nL, ret, R, mc, ms) pc L (.int z :: .int x :: st) n k1 k2 M r n' M' := by
  intro p e s m args below meth c H locs ls C w hl
  exact lv_icmp_eq C.1 C.2.1 hd ht (fun q => kt q p e s m args below meth c H locs ls C w hl) (fun q => kf q p e s m args below meth c H locs ls C w hl)
theorem fr_if_ne {x : Int32} {off : Int} (tgt : Nat) (ht : (pc : Int) + off = (tgt : Int)) (hd : decode cc pc = .ok (.ifCond .ne off, 3)) (kt : ¬ x = 0 → Fr Γ l (y, cc, nL, ret, R, mc, ms) tgt L st n k1 k2 M r n' M') (kf : x = 0 → Fr Γ l (y, cc, nL, ret, R, mc, ms) (pc + 3) L st n k1 k2 M r n' M') : Fr Γ l (y, cc, nL, ret, R, mc, ms) pc L (.int x :: st) n k1 k2 M r n' M' := by
  intro p e s m args below meth c H locs ls C w hl
  exact lv_if_ne C.1 C.2.1 hd ht (fun q => kt q p e s m args below meth c H locs ls C w hl) (fun q => kf q p e s m args below meth c H locs ls C w hl)
theorem fr_icmp_ne {x z : Int32} {off : Int} (tgt : Nat) (ht : (pc : Int) + off = (tgt : Int)) (hd : decode cc pc = .ok (.if_icmp .ne off, 3)) (kt : ¬ x = z → Fr Γ l (y, cc, nL, ret, R, mc, ms) tgt L st n k1 k2 M r n' M') (kf : x = z → Fr Γ l (y, cc, nL, ret, R, mc, ms) (pc + 3) L st n k1 k2 M r n' M') : Fr Γ l (y, cc, nL, ret, R, mc, ms) pc L (.int z :: .int x :: st) n k1 k2 M r n' M' := by
  intro p e s m args below meth c H locs ls C w hl
  exact lv_icmp_ne C.1 C.2.1 hd ht (fun q => kt q p e s m args below meth c H locs ls C w hl) (fun q => kf q p e s m args below meth c H locs ls C w hl)
theorem fr_if_lt {x : Int32} {off : Int} (tgt : Nat) (ht : (pc : Int) + off = (tgt : Int)) (hd : decode cc pc = .ok (.ifCond .lt off, 3)) (kt : x < 0 → Fr Γ l (y, cc, nL, ret, R, mc, ms) tgt L st n k1 k2 M r n' M') (kf : ¬ x < 0 → Fr Γ l (y, cc, nL, ret, R, mc, ms) (pc + 3) L st n k1 k2 M r n' M') : Fr Γ l (y, cc, nL, ret, R, mc, ms) pc L (.int x :: st) n k1 k2 M r n' M' := by
  intro p e s m args below meth c H locs ls C w hl
  exact lv_if_lt C.1 C.2.1 hd ht (fun q => kt q p e s m args below meth c H locs ls C w hl) (fun q => kf q p e s m args below meth c H locs ls C w hl)
theorem fr_icmp_lt {x z : Int32} {off : Int} (tgt : Nat) (ht : (pc : Int) + off = (tgt : Int)) (hd : decode cc pc = .ok (.if_icmp .lt off, 3)) (kt : x < z → Fr Γ l (y, cc, nL, ret, R, mc, ms) tgt L st n k1 k2 M r n' M') (kf : ¬ x < z → Fr Γ l (y, cc, nL, ret, R, mc, ms) (pc + 3) L st n k1 k2 M r n' M') : Fr Γ l (y, cc, nL, ret, R, mc, ms) pc L (.int z :: .int x :: st) n k1 k2 M r n' M' := by
  intro p e s m args below meth c H locs ls C w hl
  exact lv_icmp_lt C.1 C.2.1 hd ht (fun q => kt q p e s m args below meth c H locs ls C w hl) (fun q => kf q p e s m args below meth c H locs ls C w hl)
theorem fr_if_ge {x : Int32} {off : Int} (tgt : Nat) (ht : (pc : Int) + off = (tgt : Int)) (hd : decode cc pc = .ok (.ifCond .ge off, 3)) (kt : 0 ≤ x → Fr Γ l (y, cc, nL, ret, R, mc, ms) tgt L st n k1 k2 M r n' M') (kf : ¬ 0 ≤ x → Fr Γ l (y, cc, nL, ret, R, mc, ms) (pc + 3) L st n k1 k2 M r n' M') : Fr Γ l (y, cc, nL, ret, R, mc, ms) pc L (.int x :: st) n k1 k2 M r n' M' := by
  intro p e s m args below meth c H locs ls C w hl
  exact lv_if_ge C.1 C.2.1 hd ht (fun q => kt q p e s m args below meth c H locs ls C w hl) (fun q => kf q p e s m args below meth c H locs ls C w hl)
theorem fr_icmp_ge {x z : Int32} {off : Int} (tgt : Nat) (ht : (pc : Int) + off = (tgt : Int)) (hd : decode cc pc = .ok (.if_icmp .ge off, 3)) (kt : z ≤ x → Fr Γ l (y, cc, nL, ret, R, mc, ms) tgt L st n k1 k2 M r n' M') (kf : ¬ z ≤ x → Fr Γ l (y, cc, nL, ret, R, mc, ms) (pc + 3) L st n k1 k2 M r n' M') : Fr Γ l (y, cc, nL, ret, R, mc, ms) pc L (.int z :: .int x :: st) n k1 k2 M r n' M' := by
  intro p e s m args below meth c H locs ls C w hl
  exact lv_icmp_ge C.1 C.2.1 hd ht (fun q => kt q p e s m args below meth c H locs ls C w hl) (fun q => kf q p e s m args below meth c H locs ls C w hl)
theorem fr_if_gt {x : Int32} {off : Int} (tgt : Nat) (ht : (pc : Int) + off = (tgt : Int)) (hd : decode cc pc = .ok (.ifCond .gt off, 3)) (kt : 0 < x → Fr Γ l (y, cc, nL, ret, R, mc, ms) tgt L st n k1 k2 M r n' M') (kf : ¬ 0 < x → Fr Γ l (y, cc, nL, ret, R, mc, ms) (pc + 3) L st n k1 k2 M r n' M') : Fr Γ l (y, cc, nL, ret, R, mc, ms) pc L (.int x :: st) n k1 k2 M r n' M' := by
  intro p e s m args below meth c H locs ls C w hl
  exact lv_if_gt C.1 C.2.1 hd ht (fun q => kt q p e s m args below meth c H locs ls C w hl) (fun q => kf q p e s m args below meth c H locs ls C w hl)
theorem fr_icmp_gt {x z : Int32} {off : Int} (tgt : Nat) (ht : (pc : Int) + off = (tgt : Int)) (hd : decode cc pc = .ok (.if_icmp .gt off, 3)) (kt : z < x → Fr Γ l (y, cc, nL, ret, R, mc, ms) tgt L st n k1 k2 M r n' M') (kf : ¬ z < x → Fr Γ l (y, cc, nL, ret, R, mc, ms) (pc + 3) L st n k1 k2 M r n' M') : Fr Γ l (y, cc, nL, ret, R, mc, ms) pc L (.int z :: .int x :: st) n k1 k2 M r n' M' := by
  intro p e s m args below meth c H locs ls C w hl
  exact lv_icmp_gt C.1 C.2.1 hd ht (fun q => kt q p e s m args below meth c H locs ls C w hl) (fun q => kf q p e s m args below meth c H locs ls C w hl)
theorem fr_if_le {x : Int32} {off : Int} (tgt : Nat) (ht : (pc : Int) + off = (tgt : Int)) (hd : decode cc pc = .ok (.ifCond .le off, 3)) (kt : x ≤ 0 → Fr Γ l (y, cc, nL, ret, R, mc, ms) tgt L st n k1 k2 M r n' M') (kf : ¬ x ≤ 0 → Fr Γ l (y, cc, nL, ret, R, mc, ms) (pc + 3) L st n k1 k2 M r n' M') : Fr Γ l (y, cc, nL, ret, R, mc, ms) pc L (.int x :: st) n k1 k2 M r n' M' := by
  intro p e s m args below meth c H locs ls C w hl
  exact lv_if_le C.1 C.2.1 hd ht (fun q => kt q p e s m args below meth c H locs ls C w hl) (fun q => kf q p e s m args below meth c H locs ls C w hl)
theorem fr_icmp_le {x z : Int32} {off : Int} (tgt : Nat) (ht : (pc : Int) + off = (tgt : Int)) (hd : decode cc pc = .ok (.if_icmp .le off, 3)) (kt : x ≤ z → Fr Γ l (y, cc, nL, ret, R, mc, ms) tgt L st n k1 k2 M r n' M') (kf : ¬ x ≤ z → Fr Γ l (y, cc, nL, ret, R, mc, ms) (pc + 3) L st n k1 k2 M r n' M') : Fr Γ l (y, cc, nL, ret, R, mc, ms) pc L (.int z :: .int x :: st) n k1 k2 M r n' M' := by
  intro p e s m args below meth c H locs ls C w hl
  exact lv_icmp_le C.1 C.2.1 hd ht (fun q => kt q p e s m args below meth c H locs ls C w hl) (fun q => kf q p e s m args below meth c H locs ls C w hl)
theorem fr_goto {off : Int} (tgt : Nat) (ht : (pc : Int) + off = (tgt : Int)) (hd : decode cc pc = .ok (.goto off, 3)) (k : Fr Γ l (y, cc, nL, ret, R, mc, ms) tgt L st n k1 k2 M r n' M') : Fr Γ l (y, cc, nL, ret, R, mc, ms) pc L st n k1 k2 M r n' M' := by
  intro p e s m args below meth c H locs ls C w hl
  exact lv_goto C.1 C.2.1 hd ht (k p e s m args below meth c H locs ls C w hl)
theorem fr_tOut {x : Int32} {dflt lo hi : Int} {offs : Array Int} {len : Nat} (tgt : Nat) (h : x.toInt < lo ∨ hi < x.toInt) (ht : (pc : Int) + dflt = (tgt : Int)) (hd : decode cc pc = .ok (.tableswitch dflt lo hi offs, len)) (k : Fr Γ l (y, cc, nL, ret, R, mc, ms) tgt L st n k1 k2 M r n' M') : Fr Γ l (y, cc, nL, ret, R, mc, ms) pc L (.int x :: st) n k1 k2 M r n' M' := by
  intro p e s m args below meth c H locs ls C w hl
  exact lv_tableOut C.1 C.2.1 hd h ht (k p e s m args below meth c H locs ls C w hl)
theorem fr_tIn {x : Int32} {dflt lo hi : Int} {offs : Array Int} {len : Nat} {off : Int} (tgt : Nat) (h1 : ¬ x.toInt < lo) (h2 : ¬ hi < x.toInt) (ho : offs[(x.toInt - lo).toNat]? = some off) (ht : (pc : Int) + off = (tgt : Int)) (hd : decode cc pc = .ok (.tableswitch dflt lo hi offs, len)) (k : Fr Γ l (y, cc, nL, ret, R, mc, ms) tgt L st n k1 k2 M r n' M') : Fr Γ l (y, cc, nL, ret, R, mc, ms) pc L (.int x :: st) n k1 k2 M r n' M' := by
  intro p e s m args below meth c H locs ls C w hl
  exact lv_tableIn C.1 C.2.1 hd h1 h2 ho ht (k p e s m args below meth c H locs ls C w hl)
theorem fr_ldc {i : Nat} {v : Int32} (hw : Cond.constant y.cls i v ∈ tG) (hd : decode cc pc = .ok (.ldc i, 2)) (k : Fr Γ l (y, cc, nL, ret, R, mc, ms) (pc + 2) L (.int v :: st) n k1 k2 M r n' M') : Fr Γ l (y, cc, nL, ret, R, mc, ms) pc L st n k1 k2 M r n' M' := by
  intro p e s m args below meth c H locs ls C w hl
  exact lv_ldc C.1 C.2.1 C.2.2.2.2.1 (C.2.2.2.2.2.1 _ hw) hd (k p e s m args below meth c H locs ls C w hl)
theorem fr_ldcw {i : Nat} {v : Int32} (hw : Cond.constant y.cls i v ∈ tG) (hd : decode cc pc = .ok (.ldc_w i, 3)) (k : Fr Γ l (y, cc, nL, ret, R, mc, ms) (pc + 3) L (.int v :: st) n k1 k2 M r n' M') : Fr Γ l (y, cc, nL, ret, R, mc, ms) pc L st n k1 k2 M r n' M' := by
  intro p e s m args below meth c H locs ls C w hl
  exact lv_ldcw C.1 C.2.1 C.2.2.2.2.1 (C.2.2.2.2.2.1 _ hw) hd (k p e s m args below meth c H locs ls C w hl)
theorem a_fin {Γ : aG} {s t : State} {H : Heap} {locs : List Loc} {n k1 : Nat} {M : Nat → aC} {r : Option Value} {a : Array Value} (w : a_W Γ s n k1 M H locs) (ht : t.heap = H) : a_Q Γ r n M a s (.returned (r.map (a_v Γ))) t :=
  ⟨rfl, by rw [ht]; exact w.1, w.2.2.2, w.2.2.1.F ht⟩
theorem fr_ireturn {x z : Int32} {ty : FieldType} (hr : ret = some ty) (hz : x = z) (hm : M = M') (hn : narrow ty (.int x) = .int x) (hd : decode cc pc = .ok (.ireturn, 1)) : Fr Γ l (y, cc, nL, ret, R, k1, k2) pc L [.int x] n k1 k2 M (some (.int z)) n M' := by
  intro p e s m args below meth c H locs ls C w hl
  subst hr hz hm
  exact W.zret C.1 C.2.1 C.2.2.1 hn (fun t ht hW => a_fin w ht) w.2.2.1.2.2 hd C.2.2.2.2.2.2.1
theorem fr_lreturn {x z : Int64} (hr : ret = some .long) (hz : x = z) (hm : M = M') (hd : decode cc pc = .ok (.lreturn, 1)) : Fr Γ l (y, cc, nL, ret, R, k1, k2) pc L [.long x] n k1 k2 M (some (.long z)) n M' := by
  intro p e s m args below meth c H locs ls C w hl
  subst hr hz hm
  exact W.lret C.1 C.2.1 C.2.2.1 (fun t ht hW => a_fin w ht) w.2.2.1.2.2 hd C.2.2.2.2.2.2.1
theorem fr_return (hr : ret = none) (hm : M = M') (hd : decode cc pc = .ok (.return_, 1)) : Fr Γ l (y, cc, nL, ret, R, k1, k2) pc L [] n k1 k2 M none n M' := by
  intro p e s m args below meth c H locs ls C w hl
  subst hr hm
  exact W.vret C.1 C.2.1 C.2.2.1 (fun t ht hW => a_fin w ht) w.2.2.1.2.2 hd C.2.2.2.2.2.2.1
theorem fr_areturn {x : Nat} {rt : FieldType} (hr : ret = some rt) (hrt : (∃ n, rt = .object n) ∨ ∃ t, rt = .array t) (hm : M = M') (hd : decode cc pc = .ok (.areturn, 1)) : Fr Γ l (y, cc, nL, ret, R, k1, k2) pc L [.ref x] n k1 k2 M (some (.ref x)) n M' := by
  intro p e s m args below meth c H locs ls C w hl
  subst hr hm
  exact W.aret C.1 C.2.1 C.2.2.1 hrt (Or.inr ⟨_, rfl⟩) (fun t ht hW => a_fin w ht) w.2.2.1.2.2 hd C.2.2.2.2.2.2.1
theorem fr_get {i ci ix k0 N : Nat} {T : u_T} {fs : List Value} {Cn : String} {v : Value} (hc : vwCl[ci]? = some (Cn, T, N)) (hin : ∀ w ∈ u_ws Cn T N, w ∈ tG) (hk : k0 < N) (hw : Cond.fieldLink y.cls ix (T k0).1 (T k0).2.1 (T k0).2.2.1 ∈ tG) (hi : i < n) (hM : M i = aO ci fs) (hv : fs[k0]? = some v) (hd : decode cc pc = .ok (.getfield ix, 3)) (k : Fr Γ l (y, cc, nL, ret, R, mc, ms) (pc + 3) L (v :: st) n k1 k2 M r n' M') : Fr Γ l (y, cc, nL, ret, R, mc, ms) pc L (.ref i :: st) n k1 k2 M r n' M' := by
  intro p e s m args below meth c H locs ls C w hl
  have h1 : (a_w Γ n M)[i]? = some (Γ.2.1 + i, .inr (ci, fs.map (a_v Γ))) := by rw [a_w_at hi, hM]; rfl
  have h2 := va_get (rest := st.map (a_v Γ)) (v := a_v Γ v) C.1 C.2.1 C.2.2.2.2.2.1 hin C.2.2.2.2.1 C.2.2.2.2.2.2.2.2.2.2.2.2.2.2.2.1 w.1 i h1 hc k0 hk (C.2.2.2.2.2.1 _ hw) (fun _ h => h) (by rw [List.getElem?_map, hv]; rfl) hd (k p e s m args below meth c H locs ls C w hl)
  rw [← a_ad_lt (Γ := Γ) (Nat.lt_of_lt_of_le hi w.2.2.2)] at h2
  exact h2
theorem fr_put {i ci ix k0 N : Nat} {T : u_T} {fs : List Value} {Cn : String} {v : Value} {ty : FieldType} (ty0 : Nat → FieldType) (hty : ∀ k, k < N → parseFieldDescriptor (T k).2.2.1 = some (ty0 k)) (hnm : ∀ a, a < N → ∀ b, b < N → a ≠ b → (T a).2.1 ≠ (T b).2.1) (hc : vwCl[ci]? = some (Cn, T, N)) (hin : ∀ w ∈ u_ws Cn T N, w ∈ tG) (hk : k0 < N) (hw : Cond.fieldLink y.cls ix (T k0).1 (T k0).2.1 (T k0).2.2.1 ∈ tG) (hfin : (T k0).2.2.2 = false) (hdp : parseFieldDescriptor (T k0).2.2.1 = some ty) (hnr : narrow ty (a_v Γ v) = a_v Γ v) (hft : fits ty (a_v Γ v) = true) (hl0 : k0 < fs.length) (hi : i < n) (hM : M i = aO ci fs) (hd : decode cc pc = .ok (.putfield ix, 3)) (k : Fr Γ l (y, cc, nL, ret, R, mc, ms) (pc + 3) L st n k1 k2 (a_up M i (aO ci (fs.set k0 v))) r n' M') : Fr Γ l (y, cc, nL, ret, R, mc, ms) pc L (v :: .ref i :: st) n k1 k2 M r n' M' := by
  intro p e s m args below meth c H locs ls C w hl
  have h1 : (a_w Γ n M)[i]? = some (a_ad Γ i, .inr (ci, fs.map (a_v Γ))) := by rw [a_w_at hi, hM, a_ad_lt (Nat.lt_of_lt_of_le hi w.2.2.2)]; rfl
  refine va_put C.1 C.2.1 C.2.2.2.2.2.1 hin ty0 hty hnm C.2.2.2.2.1 C.2.2.2.2.2.2.2.2.2.2.2.2.2.2.2.1 w.1 a_w_D w.2.2.1 i h1 hc k0 hk (C.2.2.2.2.2.1 _ hw) (fun _ h => h) hfin hdp hnr hft (by rw [List.length_map]; exact hl0) hd (fun H1 locs1 q1 _ q3 => ?_)
  have e1 : (a_w Γ n M).set i (a_ad Γ i, .inr (ci, (fs.map (a_v Γ)).set k0 (a_v Γ v))) = a_w Γ n (a_up M i (aO ci (fs.set k0 v))) := by
    rw [← a_w_set, ← List.map_set, a_ad_lt (Nat.lt_of_lt_of_le hi w.2.2.2)]
    rfl
  rw [e1] at q1
  exact k p e s m args below meth c H1 locs1 ls C ⟨q1, w.2.1, q3, w.2.2.2⟩ hl
theorem fr_putF {i ci ix k0 N : Nat} {T : u_T} {fs : List Value} {Cn : String} {v : Value} {ty : FieldType} (ty0 : Nat → FieldType) (hty : ∀ k, k < N → parseFieldDescriptor (T k).2.2.1 = some (ty0 k)) (hnm : ∀ a, a < N → ∀ b, b < N → a ≠ b → (T a).2.1 ≠ (T b).2.1) (hc : vwCl[ci]? = some (Cn, T, N)) (hin : ∀ w ∈ u_ws Cn T N, w ∈ tG) (hk : k0 < N) (hw : Cond.fieldLink y.cls ix (T k0).1 (T k0).2.1 (T k0).2.2.1 ∈ tG) (hfin : (T k0).2.2.2 = true) (hin2 : y.name = "<init>") (hdecl : (T k0).1 = y.cls) (hdp : parseFieldDescriptor (T k0).2.2.1 = some ty) (hnr : narrow ty (a_v Γ v) = a_v Γ v) (hft : fits ty (a_v Γ v) = true) (hl0 : k0 < fs.length) (hi : i < n) (hM : M i = aO ci fs) (hd : decode cc pc = .ok (.putfield ix, 3)) (k : Fr Γ l (y, cc, nL, ret, R, mc, ms) (pc + 3) L st n k1 k2 (a_up M i (aO ci (fs.set k0 v))) r n' M') : Fr Γ l (y, cc, nL, ret, R, mc, ms) pc L (v :: .ref i :: st) n k1 k2 M r n' M' := by
  intro p e s m args below meth c H locs ls C w hl
  have h1 : (a_w Γ n M)[i]? = some (a_ad Γ i, .inr (ci, fs.map (a_v Γ))) := by rw [a_w_at hi, hM, a_ad_lt (Nat.lt_of_lt_of_le hi w.2.2.2)]; rfl
  refine va_putF C.1 C.2.1 C.2.2.2.2.2.1 hin ty0 hty hnm C.2.2.2.2.1 C.2.2.2.2.2.2.2.2.2.2.2.2.2.2.2.1 w.1 a_w_D w.2.2.1 i h1 hc k0 hk (C.2.2.2.2.2.1 _ hw) (fun _ h => h) hfin (C.2.2.2.2.2.2.2.1.trans hin2) hdecl hdp hnr hft (by rw [List.length_map]; exact hl0) hd (fun H1 locs1 q1 _ q3 => ?_)
  have e1 : (a_w Γ n M).set i (a_ad Γ i, .inr (ci, (fs.map (a_v Γ)).set k0 (a_v Γ v))) = a_w Γ n (a_up M i (aO ci (fs.set k0 v))) := by
    rw [← a_w_set, ← List.map_set, a_ad_lt (Nat.lt_of_lt_of_le hi w.2.2.2)]
    rfl
  rw [e1] at q1
  exact k p e s m args below meth c H1 locs1 ls C ⟨q1, w.2.1, q3, w.2.2.2⟩ hl
theorem fr_iald {i N : Nat} {f : Nat → Int32} {j : Nat} (hi : i < n) (hM : M i = aI N f) (hj : j < N) (hN : N < 2 ^ 31) (hd : decode cc pc = .ok (.iaload, 1)) (k : Fr Γ l (y, cc, nL, ret, R, mc, ms) (pc + 1) L (.int (f j) :: st) n k1 k2 M r n' M') : Fr Γ l (y, cc, nL, ret, R, mc, ms) pc L (.int (nI j) :: .ref i :: st) n k1 k2 M r n' M' := by
  intro p e s m args below meth c H locs ls C w hl
  have h1 : (a_w Γ n M)[i]? = some (a_ad Γ i, .inl (Γ.2.2.1 0, N, .inl f)) := by rw [a_w_at hi, hM, a_ad_lt (Nat.lt_of_lt_of_le hi w.2.2.2)]; rfl
  refine va_iald C.1 C.2.1 C.2.2.2.2.2.2.2.2.2.2.2.2.2.2.2.1 w.1 i 0 h1 rfl (vp_in_nI hj hN) hd ?_
  rw [nI_clamp (Nat.lt_trans hj hN)]
  exact k p e s m args below meth c H locs ls C w hl
theorem fr_iast {i N : Nat} {f : Nat → Int32} {j : Nat} {x : Int32} (hi : i < n) (hM : M i = aI N f) (hj : j < N) (hN : N < 2 ^ 31) (hd : decode cc pc = .ok (.iastore, 1)) (k : Fr Γ l (y, cc, nL, ret, R, mc, ms) (pc + 1) L st n k1 k2 (a_up M i (aI N (upd f j x))) r n' M') : Fr Γ l (y, cc, nL, ret, R, mc, ms) pc L (.int x :: .int (nI j) :: .ref i :: st) n k1 k2 M r n' M' := by
  intro p e s m args below meth c H locs ls C w hl
  have h1 : (a_w Γ n M)[i]? = some (a_ad Γ i, .inl (Γ.2.2.1 0, N, .inl f)) := by rw [a_w_at hi, hM, a_ad_lt (Nat.lt_of_lt_of_le hi w.2.2.2)]; rfl
  refine va_iast C.1 C.2.1 C.2.2.2.2.2.2.2.2.2.2.2.2.2.2.2.1 w.1 a_w_D w.2.2.1 i 0 h1 rfl (vp_in_nI hj hN) hd (fun H1 locs1 q1 _ q3 => ?_)
  rw [nI_clamp (Nat.lt_trans hj hN)] at q1
  have e1 : (a_w Γ n M).set i (a_ad Γ i, .inl (Γ.2.2.1 0, N, .inl (upd f j x))) = a_w Γ n (a_up M i (aI N (upd f j x))) := by
    rw [← a_w_set, a_ad_lt (Nat.lt_of_lt_of_le hi w.2.2.2)]
    rfl
  rw [e1] at q1
  exact k p e s m args below meth c H1 locs1 ls C ⟨q1, w.2.1, q3, w.2.2.2⟩ hl
theorem fr_alen {i N : Nat} {f : Nat → Int32} (hi : i < n) (hM : M i = aI N f) (hd : decode cc pc = .ok (.arraylength, 1)) (k : Fr Γ l (y, cc, nL, ret, R, mc, ms) (pc + 1) L (.int (nI N) :: st) n k1 k2 M r n' M') : Fr Γ l (y, cc, nL, ret, R, mc, ms) pc L (.ref i :: st) n k1 k2 M r n' M' := by
  intro p e s m args below meth c H locs ls C w hl
  have h1 : (a_w Γ n M)[i]? = some (a_ad Γ i, .inl (Γ.2.2.1 0, N, .inl f)) := by rw [a_w_at hi, hM, a_ad_lt (Nat.lt_of_lt_of_le hi w.2.2.2)]; rfl
  exact va_alen C.1 C.2.1 C.2.2.2.2.2.2.2.2.2.2.2.2.2.2.2.1 w.1 i 0 h1 rfl rfl hd (k p e s m args below meth c H locs ls C w hl)
theorem fr_alenR {i N t0 : Nat} {f : Nat → Option Nat} (hi : i < n) (hM : M i = aR 2 N f) (hd : decode cc pc = .ok (.arraylength, 1)) (k : Fr Γ l (y, cc, nL, ret, R, mc, ms) (pc + 1) L (.int (nI N) :: st) n k1 k2 M r n' M') : Fr Γ l (y, cc, nL, ret, R, mc, ms) pc L (.ref i :: st) n k1 k2 M r n' M' := by
  intro p e s m args below meth c H locs ls C w hl
  have h1 : (a_w Γ n M)[i]? = some (a_ad Γ i, .inl (Γ.2.2.1 2, N, .inr (.inr (.inr (.inr (fun j => (f j).map (a_ad Γ))))))) := by rw [a_w_at hi, hM, a_ad_lt (Nat.lt_of_lt_of_le hi w.2.2.2)]; rfl
  exact va_alen C.1 C.2.1 C.2.2.2.2.2.2.2.2.2.2.2.2.2.2.2.1 w.1 i 2 h1 rfl rfl hd (k p e s m args below meth c H locs ls C w hl)
theorem fr_aald {i N : Nat} {f : Nat → Option Nat} {j v : Nat} (hi : i < n) (hM : M i = aR 2 N f) (hj : j < N) (hN : N < 2 ^ 31) (hv : f j = some v) (hd : decode cc pc = .ok (.aaload, 1)) (k : Fr Γ l (y, cc, nL, ret, R, mc, ms) (pc + 1) L (.ref v :: st) n k1 k2 M r n' M') : Fr Γ l (y, cc, nL, ret, R, mc, ms) pc L (.int (nI j) :: .ref i :: st) n k1 k2 M r n' M' := by
  intro p e s m args below meth c H locs ls C w hl
  have h1 : (a_w Γ n M)[i]? = some (a_ad Γ i, .inl (Γ.2.2.1 2, N, .inr (.inr (.inr (.inr (fun j => (f j).map (a_ad Γ))))))) := by rw [a_w_at hi, hM, a_ad_lt (Nat.lt_of_lt_of_le hi w.2.2.2)]; rfl
  refine va_aldq C.1 C.2.1 C.2.2.2.2.2.2.2.2.2.2.2.2.2.2.2.1 w.1 i 2 h1 rfl (vp_in_nI hj hN) hd ?_
  rw [nI_clamp (Nat.lt_trans hj hN), hv]
  exact k p e s m args below meth c H locs ls C w hl
theorem a_sz {Γ : aG} {p : Program} {l : Launch} {e : Env} {R : Room} {s : State} {m : MethodId} {args : Array Value} {below : List Frame} {meth : Method} {c : Code} {H : Heap} {locs : List Loc} {n k1 k2 : Nat} {M : Nat → aC} {Q : State → Prop} {g : JFrame} (hg : Γ.2.1 ≤ s.heap.size) (w : a_W Γ s n k1 M H locs) (kk : H.size = Γ.2.1 + n → W p l e R s m args below meth c H locs k1 k2 Q g) : W p l e R s m args below meth c H locs k1 k2 Q g := by
  intro T hT X
  refine kk ?_ T hT X
  have h1 := X.heapSize
  rw [hT, w.2.1] at h1
  cases n with
  | zero =>
    have := w.2.2.1.1
    omega
  | succ j =>
    have h2 := (w.1 j _ (a_w_at (Nat.lt_succ_self j))).lt
    have h3 : Γ.2.1 + j < H.size := h2
    omega
theorem a_call {Γ : aG} {p : Program} {l : Launch} {e : Env} {R : Room} {s : State} {m : MethodId} {args : Array Value} {below : List Frame} {meth : Method} {c : Code} {H : Heap} {locs : List Loc} {cells slots mc ms n' pc : Nat} {M' : Nat → aC} {Q : State → Prop} {ls : Array Slot} {st0 rest : List Value} {v : Option Value} {a : Array Value} (hr : va_Run p l e R s m args below meth c H locs cells slots mc ms (F0 m pc ls st0) rest (a_Q Γ v n' M' a) (a_A Γ)) (hS : va_S (a_A Γ) s.heap H locs)
    (kk : ∀ (H1 : Heap) (locs1 : List Loc), va_P Γ.1 vwCl (a_w Γ n' M') H1 → n' ≤ 1000 → va_S (a_A Γ) s.heap H1 locs1 → W p l e R s m args below meth c H1 locs1 (cells + mc) (slots + ms) Q (F0 m (pc + 3) ls ((v.map (a_v Γ)).toList ++ rest))) : W p l e R s m args below meth c H locs cells slots Q (F0 m pc ls st0) := by
  intro T hT X
  obtain ⟨v1, st₀, t, T', L, h0, X', hL, e1, e2, ⟨hv, hP, hn, hz, hk⟩, st⟩ := hr T hT X
  cases hv
  rw [h0] at hz hk
  obtain ⟨t2, a1, b1⟩ := kk T'.heap (locs ++ L) (by rw [e1]; exact hP) hn
    ⟨Nat.le_trans hS.1 (by rw [e1]; exact hz), fun q h1 h2 => by rw [e1, hk q (Nat.lt_of_lt_of_le h1 hS.1) h2]; exact hS.2.1 q h1 h2, fun q hq => by
      rcases List.mem_append.mp hq with h | h
      · exact hS.2.2 q h
      · exact hL q h⟩ T' rfl X'
  exact ⟨t2, st t2 a1, b1⟩
def g_S (own : String) (ix : Nat) (x : MethodName) (b : ByteArray) (nL : Nat) (rt : Option FieldType) (a : Nat) : Prop :=
  Cond.methodLink own ix x ∈ tG ∧ Cond.static x ∈ tG ∧ Cond.initialized x.cls ∈ tG ∧ Cond.code x b nL rt ∈ tG ∧ x.cls ≠ "java/lang/invoke/MethodHandle" ∧ x.cls ≠ "java/lang/invoke/VarHandle" ∧ (parseMethodDescriptor x.desc).map (fun d => d.parameters.length) = some a
def g_V (own : String) (ix : Nat) (x : MethodName) (b : ByteArray) (nL : Nat) (rt : Option FieldType) (a : Nat) : Prop :=
  Cond.methodLink own ix x ∈ tG ∧ Cond.instanceMethod x ∈ tG ∧ Cond.selects x.cls x x ∈ tG ∧ Cond.initialized x.cls ∈ tG ∧ Cond.code x b nL rt ∈ tG ∧ x.cls ≠ "java/lang/invoke/MethodHandle" ∧ x.cls ≠ "java/lang/invoke/VarHandle" ∧ (parseMethodDescriptor x.desc).map (fun d => d.parameters.length) = some a
def g_I (own : String) (ix : Nat) (x : MethodName) (b : ByteArray) (nL : Nat) (a : Nat) : Prop :=
  Cond.methodLink own ix x ∈ tG ∧ Cond.instanceMethod x ∈ tG ∧ Cond.initialized x.cls ∈ tG ∧ Cond.code x b nL none ∈ tG ∧ x.cls ≠ "java/lang/invoke/MethodHandle" ∧ x.cls ≠ "java/lang/invoke/VarHandle" ∧ x.name = "<init>" ∧ (parseMethodDescriptor x.desc).map (fun d => d.parameters.length) = some a
def g_N (own : String) (ix : Nat) (x : MethodName) (host : String) (b : ByteArray) (nL : Nat) (a : Nat) : Prop :=
  Cond.methodLinkNest own ix x host ∈ a_nw ∧ Cond.instanceMethod x ∈ tG ∧ Cond.initialized x.cls ∈ tG ∧ Cond.code x b nL none ∈ tG ∧ x.cls ≠ "java/lang/invoke/MethodHandle" ∧ x.cls ≠ "java/lang/invoke/VarHandle" ∧ x.name = "<init>" ∧ (parseMethodDescriptor x.desc).map (fun d => d.parameters.length) = some a
theorem a_pre {Γ : aG} {s : State} {H : Heap} {locs : List Loc} {n k1 : Nat} {M : Nat → aC} {As : List Value} (hs : a_S Γ s) (w : a_W Γ s n k1 M H locs) (hz : H.size = Γ.2.1 + n) : ∀ U : State, U.heap = H → s.WarmedH U.vm → a_P Γ As n M (As.map (a_v Γ)).toArray U :=
  fun U hU hW => ⟨rfl, a_S.next hW hU w.2.2.1 hs, by rw [hU]; exact w.1, by rw [hU]; exact hz, w.2.2.2⟩
theorem fr_callS {ix a : Nat} {x : MethodName} {b : ByteArray} {nL1 : Nat} {rt : Option FieldType} {R1 : Room} {mc1 ms1 : Nat} {v : Option Value} {n1 : Nat} {M1 : Nat → aC} (As : List Value) (rest : List Value) (hE : Ev Γ l (x, b, nL1, rt, R1, mc1, ms1) As n M v n1 M1) (g : g_S y.cls ix x b nL1 rt a) (hst : st = As.reverse ++ rest) (ha : As.length = a) (hR : R1.cells = mc1 ∧ R1.slots = ms1 ∧ R1.frames + 1 ≤ R.frames ∧ 8 + (nL1 + 11) + R1.locals ≤ R.locals ∧ k1 + mc1 ≤ R.cells ∧ k2 + ms1 ≤ R.slots) (hw8 : (rest.map fun v => v.category).sum ≤ 8) (hn1 : n1 = n + mc1) (hd : decode cc pc = .ok (.invokestatic ix, 3)) (k : Fr Γ l (y, cc, nL, ret, R, mc, ms) (pc + 3) L (v.toList ++ rest) (n + mc1) (k1 + mc1) (k2 + ms1) M1 r n' M') : Fr Γ l (y, cc, nL, ret, R, mc, ms) pc L st n k1 k2 M r n' M' := by
  intro p e s m args below meth c H locs ls C w hl
  refine a_sz C.2.2.2.2.2.2.2.2.2.2.2.2.2.2.2.2 w (fun hz => ?_)
  have hcat : 2 * (F0 m pc ls (st.map (a_v Γ))).monitorRoom + ((rest.map (a_v Γ)).map fun v => v.category).sum ≤ 8 := by
    have e1 : ((rest.map (a_v Γ)).map fun v => v.category) = rest.map fun v => v.category := by
      rw [List.map_map]
      exact List.map_congr_left (fun v _ => a_v_cat Γ v)
    rw [e1]
    show 2 * 0 + _ ≤ 8
    rw [Nat.mul_zero, Nat.zero_add]
    exact hw8
  have cb := callB_of (s := s) (args := args) (own := y.cls) (index := ix) (y := x) (bytes := b) (maxL := nL1) (ret := rt) (ws := .code x b nL1 rt :: tG) (ws' := tG) (rm := R1) (mc := mc1) (ms := ms1) (R := R) a C.2.2.2.2.2.1 (tG_good g.2.2.2.1 (fun w h => h)) rfl hR.1 hR.2.1 (C.2.2.2.2.2.1 _ g.2.2.1) (C.2.2.2.2.2.1 _ g.1) ⟨g.2.2.2.2.1, g.2.2.2.2.2.1, g.2.2.2.2.2.2⟩ ⟨hR.2.2.1, hR.2.2.2.1⟩
  refine a_call (va_runS (As := As.map (a_v Γ)) (rest := rest.map (a_v Γ)) ⟨C.1, C.2.1, C.2.2.2.1, C.2.2.2.2.1, C.2.2.2.2.2.1⟩ hE ⟨cb, C.2.2.2.2.2.1 _ g.2.1⟩ ⟨a_blind, a_pre C.2.2.2.2.2.2.2.2 w hz⟩ rfl (by rw [List.length_map]; exact ha) hl.1 (by show st.map (a_v Γ) = _; rw [hst, List.map_append, List.map_reverse]) hcat hd ⟨hR.2.2.2.2.1, hR.2.2.2.2.2⟩) w.2.2.1 (fun H1 locs1 q1 q2 q3 => ?_)
  subst hn1
  have e2 : (v.map (a_v Γ)).toList ++ rest.map (a_v Γ) = (v.toList ++ rest).map (a_v Γ) := by cases v <;> rfl
  rw [e2]
  exact k p e s m args below meth c H1 locs1 ls C ⟨q1, by have := w.2.1; omega, q3, q2⟩ hl
theorem fr_callV {ix a : Nat} {x : MethodName} {b : ByteArray} {nL1 : Nat} {rt : Option FieldType} {R1 : Room} {mc1 ms1 : Nat} {v : Option Value} {n1 : Nat} {M1 : Nat → aC} {i ci N : Nat} {T : u_T} {fs : List Value} (As : List Value) (rest : List Value) (hE : Ev Γ l (x, b, nL1, rt, R1, mc1, ms1) (.ref i :: As) n M v n1 M1) (g : g_V y.cls ix x b nL1 rt a) (hst : st = As.reverse ++ .ref i :: rest) (ha : As.length = a) (hR : R1.cells = mc1 ∧ R1.slots = ms1 ∧ R1.frames + 1 ≤ R.frames ∧ 8 + (nL1 + 11) + R1.locals ≤ R.locals ∧ k1 + mc1 ≤ R.cells ∧ k2 + ms1 ≤ R.slots) (hw8 : (rest.map fun v => v.category).sum ≤ 8) (hn1 : n1 = n + mc1) (hc : vwCl[ci]? = some (x.cls, T, N)) (hi : i < n) (hM : M i = aO ci fs) (hd : decode cc pc = .ok (.invokevirtual ix, 3)) (k : Fr Γ l (y, cc, nL, ret, R, mc, ms) (pc + 3) L (v.toList ++ rest) (n + mc1) (k1 + mc1) (k2 + ms1) M1 r n' M') : Fr Γ l (y, cc, nL, ret, R, mc, ms) pc L st n k1 k2 M r n' M' := by
  intro p e s m args below meth c H locs ls C w hl
  refine a_sz C.2.2.2.2.2.2.2.2.2.2.2.2.2.2.2.2 w (fun hz => ?_)
  have hcat : 2 * (F0 m pc ls (st.map (a_v Γ))).monitorRoom + ((rest.map (a_v Γ)).map fun v => v.category).sum ≤ 8 := by
    have e1 : ((rest.map (a_v Γ)).map fun v => v.category) = rest.map fun v => v.category := by
      rw [List.map_map]
      exact List.map_congr_left (fun v _ => a_v_cat Γ v)
    rw [e1]
    show 2 * 0 + _ ≤ 8
    rw [Nat.mul_zero, Nat.zero_add]
    exact hw8
  have cb := callB_of (s := s) (args := args) (own := y.cls) (index := ix) (y := x) (bytes := b) (maxL := nL1) (ret := rt) (ws := .code x b nL1 rt :: tG) (ws' := tG) (rm := R1) (mc := mc1) (ms := ms1) (R := R) a C.2.2.2.2.2.1 (tG_good g.2.2.2.2.1 (fun w h => h)) rfl hR.1 hR.2.1 (C.2.2.2.2.2.1 _ g.2.2.2.1) (C.2.2.2.2.2.1 _ g.1) ⟨g.2.2.2.2.2.1, g.2.2.2.2.2.2.1, g.2.2.2.2.2.2.2⟩ ⟨hR.2.2.1, hR.2.2.2.1⟩
  have h1 : (a_w Γ n M)[i]? = some (a_ad Γ i, .inr (ci, fs.map (a_v Γ))) := by rw [a_w_at hi, hM, a_ad_lt (Nat.lt_of_lt_of_le hi w.2.2.2)]; rfl
  refine a_call (va_runV (b := a_ad Γ i) (C := x.cls) (As := As.map (a_v Γ)) (rest := rest.map (a_v Γ)) ⟨C.1, C.2.1, C.2.2.2.1, C.2.2.2.2.1, C.2.2.2.2.2.1⟩ hE ⟨cb, C.2.2.2.2.2.1 _ g.2.1, C.2.2.2.2.2.1 _ g.2.2.1⟩ ⟨a_blind, va_recv C.2.2.2.2.2.2.2.2.2.2.2.2.2.2.2.1 w.1 hc h1, a_pre C.2.2.2.2.2.2.2.2 w hz⟩ rfl (by rw [List.length_map]; exact ha) hl.1 (by show st.map (a_v Γ) = _; rw [hst, List.map_append, List.map_reverse]; rfl) hcat hd ⟨hR.2.2.2.2.1, hR.2.2.2.2.2⟩) w.2.2.1 (fun H1 locs1 q1 q2 q3 => ?_)
  subst hn1
  have e2 : (v.map (a_v Γ)).toList ++ rest.map (a_v Γ) = (v.toList ++ rest).map (a_v Γ) := by cases v <;> rfl
  rw [e2]
  exact k p e s m args below meth c H1 locs1 ls C ⟨q1, by have := w.2.1; omega, q3, q2⟩ hl
theorem fr_callI {ix a : Nat} {x : MethodName} {b : ByteArray} {nL1 : Nat} {R1 : Room} {mc1 ms1 : Nat} {v : Option Value} {n1 : Nat} {M1 : Nat → aC} {i : Nat} (As : List Value) (rest : List Value) (hE : Ev Γ l (x, b, nL1, none, R1, mc1, ms1) (.ref i :: As) n M v n1 M1) (g : g_I y.cls ix x b nL1 a) (hst : st = As.reverse ++ .ref i :: rest) (ha : As.length = a) (hR : R1.cells = mc1 ∧ R1.slots = ms1 ∧ R1.frames + 1 ≤ R.frames ∧ 8 + (nL1 + 11) + R1.locals ≤ R.locals ∧ k1 + mc1 ≤ R.cells ∧ k2 + ms1 ≤ R.slots) (hw8 : (rest.map fun v => v.category).sum ≤ 8) (hn1 : n1 = n + mc1) (hd : decode cc pc = .ok (.invokespecial ix, 3)) (k : Fr Γ l (y, cc, nL, ret, R, mc, ms) (pc + 3) L (v.toList ++ rest) (n + mc1) (k1 + mc1) (k2 + ms1) M1 r n' M') : Fr Γ l (y, cc, nL, ret, R, mc, ms) pc L st n k1 k2 M r n' M' := by
  intro p e s m args below meth c H locs ls C w hl
  refine a_sz C.2.2.2.2.2.2.2.2.2.2.2.2.2.2.2.2 w (fun hz => ?_)
  have hcat : 2 * (F0 m pc ls (st.map (a_v Γ))).monitorRoom + ((rest.map (a_v Γ)).map fun v => v.category).sum ≤ 8 := by
    have e1 : ((rest.map (a_v Γ)).map fun v => v.category) = rest.map fun v => v.category := by
      rw [List.map_map]
      exact List.map_congr_left (fun v _ => a_v_cat Γ v)
    rw [e1]
    show 2 * 0 + _ ≤ 8
    rw [Nat.mul_zero, Nat.zero_add]
    exact hw8
  have cb := callB_of (s := s) (args := args) (own := y.cls) (index := ix) (y := x) (bytes := b) (maxL := nL1) (ret := none) (ws := .code x b nL1 none :: tG) (ws' := tG) (rm := R1) (mc := mc1) (ms := ms1) (R := R) a C.2.2.2.2.2.1 (tG_good g.2.2.2.1 (fun w h => h)) rfl hR.1 hR.2.1 (C.2.2.2.2.2.1 _ g.2.2.1) (C.2.2.2.2.2.1 _ g.1) ⟨g.2.2.2.2.1, g.2.2.2.2.2.1, g.2.2.2.2.2.2.2⟩ ⟨hR.2.2.1, hR.2.2.2.1⟩
  refine a_call (va_runI (b := a_ad Γ i) (As := As.map (a_v Γ)) (rest := rest.map (a_v Γ)) ⟨C.1, C.2.1, C.2.2.2.1, C.2.2.2.2.1, C.2.2.2.2.2.1⟩ hE ⟨cb, g.2.2.2.2.2.2.1, C.2.2.2.2.2.1 _ g.2.1⟩ ⟨a_blind, a_pre C.2.2.2.2.2.2.2.2 w hz⟩ rfl (by rw [List.length_map]; exact ha) hl.1 (by show st.map (a_v Γ) = _; rw [hst, List.map_append, List.map_reverse]; rfl) hcat hd ⟨hR.2.2.2.2.1, hR.2.2.2.2.2⟩) w.2.2.1 (fun H1 locs1 q1 q2 q3 => ?_)
  subst hn1
  have e2 : (v.map (a_v Γ)).toList ++ rest.map (a_v Γ) = (v.toList ++ rest).map (a_v Γ) := by cases v <;> rfl
  rw [e2]
  exact k p e s m args below meth c H1 locs1 ls C ⟨q1, by have := w.2.1; omega, q3, q2⟩ hl
theorem fr_callN {ix a : Nat} {x : MethodName} {b : ByteArray} {nL1 : Nat} {R1 : Room} {mc1 ms1 : Nat} {v : Option Value} {n1 : Nat} {M1 : Nat → aC} {i : Nat} {host : String} (As : List Value) (rest : List Value) (hE : Ev Γ l (x, b, nL1, none, R1, mc1, ms1) (.ref i :: As) n M v n1 M1) (g : g_N y.cls ix x host b nL1 a) (hst : st = As.reverse ++ .ref i :: rest) (ha : As.length = a) (hR : R1.cells = mc1 ∧ R1.slots = ms1 ∧ R1.frames + 1 ≤ R.frames ∧ 8 + (nL1 + 11) + R1.locals ≤ R.locals ∧ k1 + mc1 ≤ R.cells ∧ k2 + ms1 ≤ R.slots) (hw8 : (rest.map fun v => v.category).sum ≤ 8) (hn1 : n1 = n + mc1) (hd : decode cc pc = .ok (.invokespecial ix, 3)) (k : Fr Γ l (y, cc, nL, ret, R, mc, ms) (pc + 3) L (v.toList ++ rest) (n + mc1) (k1 + mc1) (k2 + ms1) M1 r n' M') : Fr Γ l (y, cc, nL, ret, R, mc, ms) pc L st n k1 k2 M r n' M' := by
  intro p e s m args below meth c H locs ls C w hl
  refine a_sz C.2.2.2.2.2.2.2.2.2.2.2.2.2.2.2.2 w (fun hz => ?_)
  have hcat : 2 * (F0 m pc ls (st.map (a_v Γ))).monitorRoom + ((rest.map (a_v Γ)).map fun v => v.category).sum ≤ 8 := by
    have e1 : ((rest.map (a_v Γ)).map fun v => v.category) = rest.map fun v => v.category := by
      rw [List.map_map]
      exact List.map_congr_left (fun v _ => a_v_cat Γ v)
    rw [e1]
    show 2 * 0 + _ ≤ 8
    rw [Nat.mul_zero, Nat.zero_add]
    exact hw8
  have cb := va_cnB (s := s) (args := args) (own := y.cls) (host := host) (index := ix) (y := x) (bytes := b) (maxL := nL1) (ret := none) (ws := .code x b nL1 none :: tG) (ws' := tG) (rm := R1) (mc := mc1) (ms := ms1) (R := R) a C.2.2.2.2.2.1 (tG_good g.2.2.2.1 (fun w h => h)) rfl hR.1 hR.2.1 (C.2.2.2.2.2.2.2.2.2.2.2.2.1 _ g.1) (C.2.2.2.2.2.1 _ g.2.2.1) ⟨g.2.2.2.2.1, g.2.2.2.2.2.1, g.2.2.2.2.2.2.2⟩ ⟨hR.2.2.1, hR.2.2.2.1⟩
  refine a_call (va_runIN (b := a_ad Γ i) (As := As.map (a_v Γ)) (rest := rest.map (a_v Γ)) ⟨C.1, C.2.1, C.2.2.2.1, C.2.2.2.2.1, C.2.2.2.2.2.1⟩ hE ⟨cb, g.2.2.2.2.2.2.1, C.2.2.2.2.2.1 _ g.2.1⟩ ⟨a_blind, a_pre C.2.2.2.2.2.2.2.2 w hz⟩ rfl (by rw [List.length_map]; exact ha) hl.1 (by show st.map (a_v Γ) = _; rw [hst, List.map_append, List.map_reverse]; rfl) hcat hd ⟨hR.2.2.2.2.1, hR.2.2.2.2.2⟩) w.2.2.1 (fun H1 locs1 q1 q2 q3 => ?_)
  subst hn1
  have e2 : (v.map (a_v Γ)).toList ++ rest.map (a_v Γ) = (v.toList ++ rest).map (a_v Γ) := by cases v <;> rfl
  rw [e2]
  exact k p e s m args below meth c H1 locs1 ls C ⟨q1, by have := w.2.1; omega, q3, q2⟩ hl
theorem fr_mmax {ix : Nat} {x z : Int32} (h1 : Cond.methodLink y.cls ix Lib.Math.max.name ∈ tG) (h2 : Cond.static Lib.Math.max.name ∈ tG) (h3 : Cond.initialized "java/lang/Math" ∈ tG) (h4 : Cond.code Lib.Math.max.name Lib.Math.max.code 2 (some .int) ∈ tG) (hR : 1 ≤ R.frames ∧ 21 ≤ R.locals ∧ k1 ≤ R.cells ∧ k2 ≤ R.slots) (hw8 : (st.map fun v => v.category).sum ≤ 8) (hd : decode cc pc = .ok (.invokestatic ix, 3)) (k : Fr Γ l (y, cc, nL, ret, R, mc, ms) (pc + 3) L (.int (if x < z then z else x) :: st) n k1 k2 M r n' M') : Fr Γ l (y, cc, nL, ret, R, mc, ms) pc L (.int z :: .int x :: st) n k1 k2 M r n' M' := by
  intro p e s m args below meth c H locs ls C w hl
  have e1 : ((st.map (a_v Γ)).map fun v => v.category) = st.map fun v => v.category := by
    rw [List.map_map]
    exact List.map_congr_left (fun v _ => a_v_cat Γ v)
  refine va_mmax C.1 C.2.1 (C.2.2.2.1.trans hl.1.symm) C.2.2.2.2.1 (C.2.2.2.2.2.1 _ h1) (C.2.2.2.2.2.1 _ h2) (C.2.2.2.2.2.1 _ h3) (C.2.2.2.2.2.1 _ h4) hR.1 (by rw [e1]; show _ ≤ R.locals; have := hR.2.1; omega) hR.2.2.1 hR.2.2.2 hd ?_
  exact k p e s m args below meth c H locs ls C w hl
theorem fr_mmin {ix : Nat} {x z : Int32} (h1 : Cond.methodLink y.cls ix Lib.Math.min.name ∈ tG) (h2 : Cond.static Lib.Math.min.name ∈ tG) (h3 : Cond.initialized "java/lang/Math" ∈ tG) (h4 : Cond.code Lib.Math.min.name Lib.Math.min.code 2 (some .int) ∈ tG) (hR : 1 ≤ R.frames ∧ 21 ≤ R.locals ∧ k1 ≤ R.cells ∧ k2 ≤ R.slots) (hw8 : (st.map fun v => v.category).sum ≤ 8) (hd : decode cc pc = .ok (.invokestatic ix, 3)) (k : Fr Γ l (y, cc, nL, ret, R, mc, ms) (pc + 3) L (.int (if z < x then z else x) :: st) n k1 k2 M r n' M') : Fr Γ l (y, cc, nL, ret, R, mc, ms) pc L (.int z :: .int x :: st) n k1 k2 M r n' M' := by
  intro p e s m args below meth c H locs ls C w hl
  have e1 : ((st.map (a_v Γ)).map fun v => v.category) = st.map fun v => v.category := by
    rw [List.map_map]
    exact List.map_congr_left (fun v _ => a_v_cat Γ v)
  refine va_mmin C.1 C.2.1 (C.2.2.2.1.trans hl.1.symm) C.2.2.2.2.1 (C.2.2.2.2.2.1 _ h1) (C.2.2.2.2.2.1 _ h2) (C.2.2.2.2.2.1 _ h3) (C.2.2.2.2.2.1 _ h4) hR.1 (by rw [e1]; show _ ≤ R.locals; have := hR.2.1; omega) hR.2.2.1 hR.2.2.2 hd ?_
  exact k p e s m args below meth c H locs ls C w hl
theorem fr_acopy {ix i0 i1 N0 N1 sp dp q : Nat} {f g : Nat → Int32} (h1 : Cond.methodLink y.cls ix arraycopyName ∈ tG) (h2 : Cond.native arraycopyName ∈ tG) (h3 : Cond.static arraycopyName ∈ tG) (h4 : Cond.initialized "java/lang/System" ∈ tG) (hR : 1 ≤ R.frames ∧ 8 + (nativeFrameWords "java/lang/System" "arraycopy" 5 + 11) ≤ R.locals) (hw8 : (st.map fun v => v.category).sum ≤ 8) (hi0 : i0 < n) (hi1 : i1 < n) (hM0 : M i0 = aI N0 f) (hM1 : M i1 = aI N1 g) (hb0 : sp + q ≤ N0) (hb1 : dp + q ≤ N1) (hN0 : N0 < 2 ^ 31) (hN1 : N1 < 2 ^ 31) (hd : decode cc pc = .ok (.invokestatic ix, 3)) (k : Fr Γ l (y, cc, nL, ret, R, mc, ms) (pc + 3) L st n k1 k2 (a_up M i1 (aI N1 (va_cpy f g sp dp q))) r n' M') : Fr Γ l (y, cc, nL, ret, R, mc, ms) pc L (.int (nI q) :: .int (nI dp) :: .ref i1 :: .int (nI sp) :: .ref i0 :: st) n k1 k2 M r n' M' := by
  intro p e s m args below meth c H locs ls C w hl
  have e1 : ((st.map (a_v Γ)).map fun v => v.category) = st.map fun v => v.category := by
    rw [List.map_map]
    exact List.map_congr_left (fun v _ => a_v_cat Γ v)
  have g0 : (a_w Γ n M)[i0]? = some (a_ad Γ i0, .inl (Γ.2.2.1 0, N0, .inl f)) := by rw [a_w_at hi0, hM0, a_ad_lt (Nat.lt_of_lt_of_le hi0 w.2.2.2)]; rfl
  have g1 : (a_w Γ n M)[i1]? = some (a_ad Γ i1, .inl (Γ.2.2.1 0, N1, .inl g)) := by rw [a_w_at hi1, hM1, a_ad_lt (Nat.lt_of_lt_of_le hi1 w.2.2.2)]; rfl
  have c1 : (nI sp).toNatClampNeg = sp := nI_clamp (by omega)
  have c2 : (nI dp).toNatClampNeg = dp := nI_clamp (by omega)
  have c3 : (nI q).toNatClampNeg = q := nI_clamp (by omega)
  refine va_copyi C.1 C.2.1 (C.2.2.2.1.trans hl.1.symm) C.2.2.2.2.1 (C.2.2.2.2.2.1 _ h1) (C.2.2.2.2.2.1 _ h2) (C.2.2.2.2.2.1 _ h3) (C.2.2.2.2.2.1 _ h4) C.2.2.2.2.2.2.2.2.2.2.2.2.2.2.2.1 w.1 a_w_D w.2.2.1 i0 i1 0 0 g0 g1 rfl rfl rfl (nI_pos (by omega)) (nI_pos (by omega)) (nI_pos (by omega)) (by rw [c1, c3]; exact hb0) (by rw [c2, c3]; exact hb1) (fun i _ => rfl) hR.1 (by rw [e1]; show _ ≤ R.locals; have := hR.2; omega) hd (fun H1 locs1 q1 _ q3 => ?_)
  rw [c1, c2, c3] at q1
  have e2 : (a_w Γ n M).set i1 (a_ad Γ i1, .inl (Γ.2.2.1 0, N1, .inl (va_cpy f g sp dp q))) = a_w Γ n (a_up M i1 (aI N1 (va_cpy f g sp dp q))) := by
    rw [← a_w_set, a_ad_lt (Nat.lt_of_lt_of_le hi1 w.2.2.2)]
    rfl
  rw [e2] at q1
  exact k p e s m args below meth c H1 locs1 ls C ⟨q1, w.2.1, q3, w.2.2.2⟩ hl
theorem fr_objInit {ix i : Nat} (h1 : Cond.methodLink y.cls ix Lib.objectInit ∈ tG) (h2 : Cond.instanceMethod Lib.objectInit ∈ tG) (h3 : Cond.code Lib.objectInit ⟨#[0xb1]⟩ 1 none ∈ tG) (hR : 1 ≤ R.frames ∧ 20 ≤ R.locals) (hw8 : (st.map fun v => v.category).sum ≤ 8) (hd : decode cc pc = .ok (.invokespecial ix, 3)) (k : Fr Γ l (y, cc, nL, ret, R, mc, ms) (pc + 3) L st n k1 k2 M r n' M') : Fr Γ l (y, cc, nL, ret, R, mc, ms) pc L (.ref i :: st) n k1 k2 M r n' M' := by
  intro p e s m args below meth c H locs ls C w hl
  have e1 : ((st.map (a_v Γ)).map fun v => v.category) = st.map fun v => v.category := by
    rw [List.map_map]
    exact List.map_congr_left (fun v _ => a_v_cat Γ v)
  refine W.objInit C.1 C.2.1 C.2.2.2.2.1 (C.2.2.2.2.2.1 _ h1) (C.2.2.2.2.2.1 _ h2) (C.2.2.2.2.2.1 _ h3) rfl (hl.1.trans C.2.2.2.1.symm) (a := a_ad Γ i) (rest := st.map (a_v Γ)) rfl hd hR.1 (by rw [e1]; show 2 * 0 + _ + 12 ≤ R.locals; have := hR.2; omega) ?_
  exact k p e s m args below meth c H locs ls C w hl
theorem fr_new {ix ci N : Nat} {T : u_T} {Cn : String} (fs : List Value) (ty : Nat → FieldType) (hty : ∀ k, k < N → parseFieldDescriptor (T k).2.2.1 = some (ty k)) (hc : vwCl[ci]? = some (Cn, T, N)) (hin : ∀ w ∈ u_ws Cn T N, w ∈ tG) (h1 : Cond.classLink y.cls ix Cn ∈ tG) (h2 : Cond.instantiable Cn N ∈ tG) (h3 : Cond.initialized Cn ∈ tG) (hfs : ∀ j, j < N → defaultValue (ty j) = vp_V (fs.map (a_v Γ)) j) (hR : k1 + 1 ≤ R.cells ∧ k2 + N ≤ R.slots) (hn : n + 1 ≤ 1000) (hd : decode cc pc = .ok (.new ix, 3)) (k : Fr Γ l (y, cc, nL, ret, R, mc, ms) (pc + 3) L (.ref n :: st) (n + 1) (k1 + 1) (k2 + N) (a_up M n (aO ci fs)) r n' M') : Fr Γ l (y, cc, nL, ret, R, mc, ms) pc L st n k1 k2 M r n' M' := by
  intro p e s m args below meth c H locs ls C w hl
  refine a_sz C.2.2.2.2.2.2.2.2.2.2.2.2.2.2.2.2 w (fun hz => ?_)
  have hKn := C.2.2.2.2.2.2.2.2.2.2.2.2.2.2.2.1.1 ci _ hc
  refine W.newcK C.1 C.2.1 C.2.2.2.2.1 (C.2.2.2.2.2.1 _ h1) (C.2.2.2.2.2.1 _ h2) (C.2.2.2.2.2.1 _ h3) rfl hd hR.1 hR.2 hKn.2.1 hz fun H1 kC hkC e1 z1 o1 => ?_
  rw [← a_ad_lt (Γ := Γ) (show n < 1000 by omega)] at e1
  have hk : ∀ (k : Nat) (x : Nat × va_E), (a_w Γ n M)[k]? = some x → H1[x.1]? = H[x.1]? := fun k x hx => o1 x.1 (by rw [← hz]; exact (w.1 k x hx).lt)
  have hP : va_P Γ.1 vwCl (a_w Γ (n + 1) (a_up M n (aO ci fs))) H1 := by
    rw [← a_w_push]
    refine (w.1.kept hk).app (fun k x hx => ?_)
    have hz : k < 1 := (List.getElem?_eq_some_iff.mp hx).1
    rw [show k = 0 by omega] at hx
    cases hx
    rw [a_ad_lt (Γ := Γ) (show n < 1000 by omega)] at e1
    exact ⟨_, hc, (u_born ty C.2.2.2.2.2.1 hin hKn hkC e1 hty).to hfs⟩
  have hS : va_S (a_A Γ) s.heap H1 locs := ⟨Nat.le_trans w.2.2.1.1 (by omega), fun x g1 g2 => (o1 x (by rw [← hz]; exact Nat.lt_of_lt_of_le g1 w.2.2.1.1)).trans (w.2.2.1.2.1 x g1 g2), w.2.2.1.2.2⟩
  rw [← a_ad_lt (Γ := Γ) (show n < 1000 by omega)]
  exact k p e s m args below meth c H1 locs ls C ⟨hP, by have := w.2.1; omega, hS, hn⟩ hl
theorem fr_newa {N : Nat} (h1 : Cond.arrayClass .int ∈ tG) (hN : N < 2 ^ 20) (hR : k1 + 1 ≤ R.cells ∧ k2 + N ≤ R.slots) (hn : n + 1 ≤ 1000) (hd : decode cc pc = .ok (.newarray .int, 2)) (k : Fr Γ l (y, cc, nL, ret, R, mc, ms) (pc + 2) L (.ref n :: st) (n + 1) (k1 + 1) (k2 + N) (a_up M n (aI N (fun _ => 0))) r n' M') : Fr Γ l (y, cc, nL, ret, R, mc, ms) pc L (.int (nI N) :: st) n k1 k2 M r n' M' := by
  intro p e s m args below meth c H locs ls C w hl
  refine a_sz C.2.2.2.2.2.2.2.2.2.2.2.2.2.2.2.2 w (fun hz => ?_)
  have hb4 : N * componentBytes (newarray.typeOf .int) ≤ 536870912 := by show N * 4 ≤ _; omega
  refine va_newaK (atype := .int) C.1 C.2.1 (C.2.2.2.2.2.1 _ h1) rfl hd (n := nI N) (N := N) rfl (nI_pos (by omega)) (nI_clamp (by omega)) hb4 hR.1 hR.2 hz fun H1 cA e1 z1 o1 hAr hNm => ?_
  have hcA : cA = Γ.2.2.1 0 := by
    have h9 := (C.2.2.2.2.2.2.2.2.2.2.2.2.2.2.2.1.2 0 _ rfl).2
    exact Option.some.inj (hNm.symm.trans h9)
  have hk : ∀ (k : Nat) (x : Nat × va_E), (a_w Γ n M)[k]? = some x → H1[x.1]? = H[x.1]? := fun k x hx => o1 x.1 (by rw [← hz]; exact (w.1 k x hx).lt)
  have hP : va_P Γ.1 vwCl (a_w Γ (n + 1) (a_up M n (aI N (fun _ => 0)))) H1 := by
    rw [← a_w_push]
    refine (w.1.kept hk).app (fun k x hx => ?_)
    have hz : k < 1 := (List.getElem?_eq_some_iff.mp hx).1
    rw [show k = 0 by omega] at hx
    cases hx
    show H1[Γ.2.1 + n]? = some (vp_cell (Γ.2.2.1 0) (N, .inl (fun _ => 0)))
    rw [vp_cell_i, ← hcA]
    exact e1
  have hS : va_S (a_A Γ) s.heap H1 locs := ⟨Nat.le_trans w.2.2.1.1 (by omega), fun x g1 g2 => (o1 x (by rw [← hz]; exact Nat.lt_of_lt_of_le g1 w.2.2.1.1)).trans (w.2.2.1.2.1 x g1 g2), w.2.2.1.2.2⟩
  rw [← a_ad_lt (Γ := Γ) (show n < 1000 by omega)]
  exact k p e s m args below meth c H1 locs ls C ⟨hP, by have := w.2.1; omega, hS, hn⟩ hl
theorem fr_gsA {ix k0 : Nat} (hk : k0 < 4) (hw : Cond.fieldLink y.cls ix (a_sa k0).1 (a_sa k0).2.1 "[I" ∈ tG) (hd : decode cc pc = .ok (.getstatic ix, 3)) (k : Fr Γ l (y, cc, nL, ret, R, mc, ms) (pc + 3) L (.ref (1000 + k0) :: st) n k1 k2 M r n' M') : Fr Γ l (y, cc, nL, ret, R, mc, ms) pc L st n k1 k2 M r n' M' := by
  intro p e s m args below meth c H locs ls C w hl
  have e1 : a_ad Γ (1000 + k0) = Γ.2.2.2 (1000 + k0) := if_neg (by omega)
  have k2 := k p e s m args below meth c H locs ls C w hl
  rw [show ((Value.ref (1000 + k0) :: st).map (a_v Γ)) = .ref (a_ad Γ (1000 + k0)) :: st.map (a_v Γ) from rfl, e1] at k2
  exact va_gets C.1 C.2.1 (C.2.2.2.2.2.2.2.2.1 k0 hk).1 w.2.2.1 C.2.2.2.2.1 (C.2.2.2.2.2.1 _ hw) (fun _ h => h) hd k2
theorem fr_gsN {ix k0 : Nat} {host : String} (hk : k0 < 4) (hw : Cond.fieldLinkNest y.cls ix (a_sa k0).1 (a_sa k0).2.1 "[I" host ∈ a_nw) (hd : decode cc pc = .ok (.getstatic ix, 3)) (k : Fr Γ l (y, cc, nL, ret, R, mc, ms) (pc + 3) L (.ref (1000 + k0) :: st) n k1 k2 M r n' M') : Fr Γ l (y, cc, nL, ret, R, mc, ms) pc L st n k1 k2 M r n' M' := by
  intro p e s m args below meth c H locs ls C w hl
  have e1 : a_ad Γ (1000 + k0) = Γ.2.2.2 (1000 + k0) := if_neg (by omega)
  have k2 := k p e s m args below meth c H locs ls C w hl
  rw [show ((Value.ref (1000 + k0) :: st).map (a_v Γ)) = .ref (a_ad Γ (1000 + k0)) :: st.map (a_v Γ) from rfl, e1] at k2
  exact va_getsN C.1 C.2.1 (C.2.2.2.2.2.2.2.2.1 k0 hk).1 w.2.2.1 C.2.2.2.2.1 (va_Nw.use rfl (C.2.2.2.2.2.2.2.2.2.2.2.2.1 _ hw)) (fun _ h => h) hd k2
theorem fr_ialdS {k0 j : Nat} (hk : k0 < 4) (hj : j < (a_sa k0).2.2.length) (hJ : j < 100) (hd : decode cc pc = .ok (.iaload, 1)) (k : Fr Γ l (y, cc, nL, ret, R, mc, ms) (pc + 1) L (.int ((a_sa k0).2.2.getD j 0) :: st) n k1 k2 M r n' M') : Fr Γ l (y, cc, nL, ret, R, mc, ms) pc L (.int (nI j) :: .ref (1000 + k0) :: st) n k1 k2 M r n' M' := by
  intro p e s m args below meth c H locs ls C w hl
  have e1 : a_ad Γ (1000 + k0) = Γ.2.2.2 (1000 + k0) := if_neg (by omega)
  have hc : (nI j).toNatClampNeg = j := nI_clamp (by omega)
  rw [show ((Value.int (nI j) :: Value.ref (1000 + k0) :: st).map (a_v Γ)) = .int (nI j) :: .ref (a_ad Γ (1000 + k0)) :: st.map (a_v Γ) from rfl, e1]
  refine va_ti C.1 C.2.1 (C.2.2.2.2.2.2.2.2.1 k0 hk).2 w.2.2.1 (v := .int ((a_sa k0).2.2.getD j 0)) (fun q => ?_) (by rw [hc]) hd (k p e s m args below meth c H locs ls C w hl)
  rcases q with q | q
  · exact nI_pos (by omega) q
  · rw [hc] at q; omega
end A1
end
