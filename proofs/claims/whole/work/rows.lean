section
-- ===== PART A: goes FIRST, ahead of the names: the tables' words, and 'selects' of the private methods out of them =====
/-- a private method of a class that the tables say can be made, by its rows of tables_1 -/
def lw_okq (q : MethodName × Nat) : Prop := (q.1.cls ≠ "java/lang/invoke/MethodHandle" ∧ q.1.cls ≠ "java/lang/invoke/VarHandle") ∧ Cond.instantiable q.1.cls q.2 ∈ tables_1 ∧ Cond.privateMethod q.1 ∈ tables_1 ∧ Cond.instanceMethod q.1 ∈ tables_1
theorem lw_p0 : lw_okq (⟨"LacedHouse", "found", "(I)I"⟩, 7) := ⟨⟨by decide +kernel, by decide +kernel⟩, List.mem_of_getElem? (i := 16) (by decide +kernel), List.mem_of_getElem? (i := 177) (by decide +kernel), List.mem_of_getElem? (i := 178) (by decide +kernel)⟩
theorem lw_p1 : lw_okq (⟨"LacedHouse", "isGuest", "(I)Z"⟩, 7) := ⟨⟨by decide +kernel, by decide +kernel⟩, List.mem_of_getElem? (i := 16) (by decide +kernel), List.mem_of_getElem? (i := 234) (by decide +kernel), List.mem_of_getElem? (i := 235) (by decide +kernel)⟩
theorem lw_p2 : lw_okq (⟨"LacedHouse$House", "walk", "(II)V"⟩, 15) := ⟨⟨by decide +kernel, by decide +kernel⟩, List.mem_of_getElem? (i := 24) (by decide +kernel), List.mem_of_getElem? (i := 298) (by decide +kernel), List.mem_of_getElem? (i := 299) (by decide +kernel)⟩
theorem lw_p3 : lw_okq (⟨"LacedHouse$House", "pull", "(I)V"⟩, 15) := ⟨⟨by decide +kernel, by decide +kernel⟩, List.mem_of_getElem? (i := 24) (by decide +kernel), List.mem_of_getElem? (i := 306) (by decide +kernel), List.mem_of_getElem? (i := 307) (by decide +kernel)⟩
theorem lw_p4 : lw_okq (⟨"LacedHouse", "startTrial", "()V"⟩, 7) := ⟨⟨by decide +kernel, by decide +kernel⟩, List.mem_of_getElem? (i := 16) (by decide +kernel), List.mem_of_getElem? (i := 338) (by decide +kernel), List.mem_of_getElem? (i := 339) (by decide +kernel)⟩
theorem lw_p5 : lw_okq (⟨"LacedHouse", "lackOfTold", "(II)I"⟩, 7) := ⟨⟨by decide +kernel, by decide +kernel⟩, List.mem_of_getElem? (i := 16) (by decide +kernel), List.mem_of_getElem? (i := 409) (by decide +kernel), List.mem_of_getElem? (i := 410) (by decide +kernel)⟩
theorem lw_p6 : lw_okq (⟨"LacedHouse", "lackOfSheet", "(I)I"⟩, 7) := ⟨⟨by decide +kernel, by decide +kernel⟩, List.mem_of_getElem? (i := 16) (by decide +kernel), List.mem_of_getElem? (i := 413) (by decide +kernel), List.mem_of_getElem? (i := 414) (by decide +kernel)⟩
theorem lw_p7 : lw_okq (⟨"LacedHouse", "trialGoesAsTold", "(II)Z"⟩, 7) := ⟨⟨by decide +kernel, by decide +kernel⟩, List.mem_of_getElem? (i := 16) (by decide +kernel), List.mem_of_getElem? (i := 425) (by decide +kernel), List.mem_of_getElem? (i := 426) (by decide +kernel)⟩
theorem lw_p8 : lw_okq (⟨"LacedHouse$House", "draw", "()I"⟩, 15) := ⟨⟨by decide +kernel, by decide +kernel⟩, List.mem_of_getElem? (i := 24) (by decide +kernel), List.mem_of_getElem? (i := 441) (by decide +kernel), List.mem_of_getElem? (i := 442) (by decide +kernel)⟩
theorem lw_p9 : lw_okq (⟨"LacedHouse$Tape", "next", "()V"⟩, 6) := ⟨⟨by decide +kernel, by decide +kernel⟩, List.mem_of_getElem? (i := 120) (by decide +kernel), List.mem_of_getElem? (i := 487) (by decide +kernel), List.mem_of_getElem? (i := 488) (by decide +kernel)⟩
theorem lw_p10 : lw_okq (⟨"LacedHouse$Tape", "readItem", "(LLacedHouse$House;)Z"⟩, 6) := ⟨⟨by decide +kernel, by decide +kernel⟩, List.mem_of_getElem? (i := 120) (by decide +kernel), List.mem_of_getElem? (i := 498) (by decide +kernel), List.mem_of_getElem? (i := 499) (by decide +kernel)⟩
theorem lw_p11 : lw_okq (⟨"LacedHouse$Tape", "kindTold", "()I"⟩, 6) := ⟨⟨by decide +kernel, by decide +kernel⟩, List.mem_of_getElem? (i := 120) (by decide +kernel), List.mem_of_getElem? (i := 502) (by decide +kernel), List.mem_of_getElem? (i := 503) (by decide +kernel)⟩
theorem lw_p12 : lw_okq (⟨"LacedHouse$Tape", "isWord", "(Ljava/lang/String;)Z"⟩, 6) := ⟨⟨by decide +kernel, by decide +kernel⟩, List.mem_of_getElem? (i := 120) (by decide +kernel), List.mem_of_getElem? (i := 516) (by decide +kernel), List.mem_of_getElem? (i := 517) (by decide +kernel)⟩
theorem lw_p13 : lw_okq (⟨"LacedHouse$Tape", "readGuest", "(LLacedHouse$House;I)Z"⟩, 6) := ⟨⟨by decide +kernel, by decide +kernel⟩, List.mem_of_getElem? (i := 120) (by decide +kernel), List.mem_of_getElem? (i := 568) (by decide +kernel), List.mem_of_getElem? (i := 569) (by decide +kernel)⟩
theorem lw_p14 : lw_okq (⟨"LacedHouse$Tape", "takeNumber", "(II)Z"⟩, 6) := ⟨⟨by decide +kernel, by decide +kernel⟩, List.mem_of_getElem? (i := 120) (by decide +kernel), List.mem_of_getElem? (i := 574) (by decide +kernel), List.mem_of_getElem? (i := 575) (by decide +kernel)⟩
theorem lw_p15 : lw_okq (⟨"LacedHouse$Tape", "readTrait", "(Ljava/lang/String;[IIII)Z"⟩, 6) := ⟨⟨by decide +kernel, by decide +kernel⟩, List.mem_of_getElem? (i := 120) (by decide +kernel), List.mem_of_getElem? (i := 580) (by decide +kernel), List.mem_of_getElem? (i := 581) (by decide +kernel)⟩
def lw_privs_1 : List (MethodName × Nat) := [(⟨"LacedHouse", "found", "(I)I"⟩, 7), (⟨"LacedHouse", "isGuest", "(I)Z"⟩, 7), (⟨"LacedHouse$House", "walk", "(II)V"⟩, 15), (⟨"LacedHouse$House", "pull", "(I)V"⟩, 15), (⟨"LacedHouse", "startTrial", "()V"⟩, 7), (⟨"LacedHouse", "lackOfTold", "(II)I"⟩, 7), (⟨"LacedHouse", "lackOfSheet", "(I)I"⟩, 7), (⟨"LacedHouse", "trialGoesAsTold", "(II)Z"⟩, 7), (⟨"LacedHouse$House", "draw", "()I"⟩, 15), (⟨"LacedHouse$Tape", "next", "()V"⟩, 6), (⟨"LacedHouse$Tape", "readItem", "(LLacedHouse$House;)Z"⟩, 6), (⟨"LacedHouse$Tape", "kindTold", "()I"⟩, 6), (⟨"LacedHouse$Tape", "isWord", "(Ljava/lang/String;)Z"⟩, 6), (⟨"LacedHouse$Tape", "readGuest", "(LLacedHouse$House;I)Z"⟩, 6), (⟨"LacedHouse$Tape", "takeNumber", "(II)Z"⟩, 6), (⟨"LacedHouse$Tape", "readTrait", "(Ljava/lang/String;[IIII)Z"⟩, 6)]
theorem lw_r1 : ∀ q ∈ lw_privs_1, lw_okq q := List.forall_mem_cons.mpr ⟨lw_p0, List.forall_mem_cons.mpr ⟨lw_p1, List.forall_mem_cons.mpr ⟨lw_p2, List.forall_mem_cons.mpr ⟨lw_p3, List.forall_mem_cons.mpr ⟨lw_p4, List.forall_mem_cons.mpr ⟨lw_p5, List.forall_mem_cons.mpr ⟨lw_p6, List.forall_mem_cons.mpr ⟨lw_p7, List.forall_mem_cons.mpr ⟨lw_p8, List.forall_mem_cons.mpr ⟨lw_p9, List.forall_mem_cons.mpr ⟨lw_p10, List.forall_mem_cons.mpr ⟨lw_p11, List.forall_mem_cons.mpr ⟨lw_p12, List.forall_mem_cons.mpr ⟨lw_p13, List.forall_mem_cons.mpr ⟨lw_p14, List.forall_mem_cons.mpr ⟨lw_p15, fun _ h => absurd h List.not_mem_nil⟩⟩⟩⟩⟩⟩⟩⟩⟩⟩⟩⟩⟩⟩⟩⟩
theorem lw_p16 : lw_okq (⟨"LacedHouse$Tape", "readPair", "([III)Z"⟩, 6) := ⟨⟨by decide +kernel, by decide +kernel⟩, List.mem_of_getElem? (i := 120) (by decide +kernel), List.mem_of_getElem? (i := 586) (by decide +kernel), List.mem_of_getElem? (i := 587) (by decide +kernel)⟩
theorem lw_p17 : lw_okq (⟨"LacedHouseModel", "become", "(II)I"⟩, 20) := ⟨⟨by decide +kernel, by decide +kernel⟩, List.mem_of_getElem? (i := 676) (by decide +kernel), List.mem_of_getElem? (i := 762) (by decide +kernel), List.mem_of_getElem? (i := 763) (by decide +kernel)⟩
theorem lw_p18 : lw_okq (⟨"LacedHouseModel", "finding", "(I)I"⟩, 20) := ⟨⟨by decide +kernel, by decide +kernel⟩, List.mem_of_getElem? (i := 676) (by decide +kernel), List.mem_of_getElem? (i := 767) (by decide +kernel), List.mem_of_getElem? (i := 768) (by decide +kernel)⟩
theorem lw_p19 : lw_okq (⟨"LacedHouseModel", "wideAt", "(II)I"⟩, 20) := ⟨⟨by decide +kernel, by decide +kernel⟩, List.mem_of_getElem? (i := 676) (by decide +kernel), List.mem_of_getElem? (i := 799) (by decide +kernel), List.mem_of_getElem? (i := 800) (by decide +kernel)⟩
theorem lw_p20 : lw_okq (⟨"LacedHouseModel", "comesIn", "(II)I"⟩, 20) := ⟨⟨by decide +kernel, by decide +kernel⟩, List.mem_of_getElem? (i := 676) (by decide +kernel), List.mem_of_getElem? (i := 812) (by decide +kernel), List.mem_of_getElem? (i := 813) (by decide +kernel)⟩
theorem lw_p21 : lw_okq (⟨"LacedHouseModel", "isGuest", "(I)Z"⟩, 20) := ⟨⟨by decide +kernel, by decide +kernel⟩, List.mem_of_getElem? (i := 676) (by decide +kernel), List.mem_of_getElem? (i := 823) (by decide +kernel), List.mem_of_getElem? (i := 824) (by decide +kernel)⟩
theorem lw_p22 : lw_okq (⟨"LacedHouseModel", "told", "(II)I"⟩, 20) := ⟨⟨by decide +kernel, by decide +kernel⟩, List.mem_of_getElem? (i := 676) (by decide +kernel), List.mem_of_getElem? (i := 827) (by decide +kernel), List.mem_of_getElem? (i := 828) (by decide +kernel)⟩
theorem lw_p23 : lw_okq (⟨"LacedHouseModel", "needs", "(I)I"⟩, 20) := ⟨⟨by decide +kernel, by decide +kernel⟩, List.mem_of_getElem? (i := 676) (by decide +kernel), List.mem_of_getElem? (i := 831) (by decide +kernel), List.mem_of_getElem? (i := 832) (by decide +kernel)⟩
theorem lw_p24 : lw_okq (⟨"LacedHouseModel", "guestIs", "(II)I"⟩, 20) := ⟨⟨by decide +kernel, by decide +kernel⟩, List.mem_of_getElem? (i := 676) (by decide +kernel), List.mem_of_getElem? (i := 835) (by decide +kernel), List.mem_of_getElem? (i := 836) (by decide +kernel)⟩
theorem lw_p25 : lw_okq (⟨"LacedHouseModel", "steps", "(I)I"⟩, 20) := ⟨⟨by decide +kernel, by decide +kernel⟩, List.mem_of_getElem? (i := 676) (by decide +kernel), List.mem_of_getElem? (i := 839) (by decide +kernel), List.mem_of_getElem? (i := 840) (by decide +kernel)⟩
theorem lw_p26 : lw_okq (⟨"LacedHouseModel", "laughs", "(I)I"⟩, 20) := ⟨⟨by decide +kernel, by decide +kernel⟩, List.mem_of_getElem? (i := 676) (by decide +kernel), List.mem_of_getElem? (i := 843) (by decide +kernel), List.mem_of_getElem? (i := 844) (by decide +kernel)⟩
theorem lw_p27 : lw_okq (⟨"LacedHouseModel", "laces", "(I)I"⟩, 20) := ⟨⟨by decide +kernel, by decide +kernel⟩, List.mem_of_getElem? (i := 676) (by decide +kernel), List.mem_of_getElem? (i := 847) (by decide +kernel), List.mem_of_getElem? (i := 848) (by decide +kernel)⟩
theorem lw_p28 : lw_okq (⟨"LacedHouseModel", "reachOf", "(II)I"⟩, 20) := ⟨⟨by decide +kernel, by decide +kernel⟩, List.mem_of_getElem? (i := 676) (by decide +kernel), List.mem_of_getElem? (i := 862) (by decide +kernel), List.mem_of_getElem? (i := 863) (by decide +kernel)⟩
theorem lw_p29 : lw_okq (⟨"LacedHouseModel", "hoursGo", "(I)V"⟩, 20) := ⟨⟨by decide +kernel, by decide +kernel⟩, List.mem_of_getElem? (i := 676) (by decide +kernel), List.mem_of_getElem? (i := 872) (by decide +kernel), List.mem_of_getElem? (i := 873) (by decide +kernel)⟩
theorem lw_p30 : lw_okq (⟨"LacedHouseModel", "hour", "()V"⟩, 20) := ⟨⟨by decide +kernel, by decide +kernel⟩, List.mem_of_getElem? (i := 676) (by decide +kernel), List.mem_of_getElem? (i := 876) (by decide +kernel), List.mem_of_getElem? (i := 877) (by decide +kernel)⟩
theorem lw_p31 : lw_okq (⟨"LacedHouseModel", "measureNow", "()I"⟩, 20) := ⟨⟨by decide +kernel, by decide +kernel⟩, List.mem_of_getElem? (i := 676) (by decide +kernel), List.mem_of_getElem? (i := 880) (by decide +kernel), List.mem_of_getElem? (i := 881) (by decide +kernel)⟩
def lw_privs_2 : List (MethodName × Nat) := [(⟨"LacedHouse$Tape", "readPair", "([III)Z"⟩, 6), (⟨"LacedHouseModel", "become", "(II)I"⟩, 20), (⟨"LacedHouseModel", "finding", "(I)I"⟩, 20), (⟨"LacedHouseModel", "wideAt", "(II)I"⟩, 20), (⟨"LacedHouseModel", "comesIn", "(II)I"⟩, 20), (⟨"LacedHouseModel", "isGuest", "(I)Z"⟩, 20), (⟨"LacedHouseModel", "told", "(II)I"⟩, 20), (⟨"LacedHouseModel", "needs", "(I)I"⟩, 20), (⟨"LacedHouseModel", "guestIs", "(II)I"⟩, 20), (⟨"LacedHouseModel", "steps", "(I)I"⟩, 20), (⟨"LacedHouseModel", "laughs", "(I)I"⟩, 20), (⟨"LacedHouseModel", "laces", "(I)I"⟩, 20), (⟨"LacedHouseModel", "reachOf", "(II)I"⟩, 20), (⟨"LacedHouseModel", "hoursGo", "(I)V"⟩, 20), (⟨"LacedHouseModel", "hour", "()V"⟩, 20), (⟨"LacedHouseModel", "measureNow", "()I"⟩, 20)]
theorem lw_r2 : ∀ q ∈ lw_privs_2, lw_okq q := List.forall_mem_cons.mpr ⟨lw_p16, List.forall_mem_cons.mpr ⟨lw_p17, List.forall_mem_cons.mpr ⟨lw_p18, List.forall_mem_cons.mpr ⟨lw_p19, List.forall_mem_cons.mpr ⟨lw_p20, List.forall_mem_cons.mpr ⟨lw_p21, List.forall_mem_cons.mpr ⟨lw_p22, List.forall_mem_cons.mpr ⟨lw_p23, List.forall_mem_cons.mpr ⟨lw_p24, List.forall_mem_cons.mpr ⟨lw_p25, List.forall_mem_cons.mpr ⟨lw_p26, List.forall_mem_cons.mpr ⟨lw_p27, List.forall_mem_cons.mpr ⟨lw_p28, List.forall_mem_cons.mpr ⟨lw_p29, List.forall_mem_cons.mpr ⟨lw_p30, List.forall_mem_cons.mpr ⟨lw_p31, fun _ h => absurd h List.not_mem_nil⟩⟩⟩⟩⟩⟩⟩⟩⟩⟩⟩⟩⟩⟩⟩⟩
theorem lw_p32 : lw_okq (⟨"LacedHouseModel", "placeNow", "()I"⟩, 20) := ⟨⟨by decide +kernel, by decide +kernel⟩, List.mem_of_getElem? (i := 676) (by decide +kernel), List.mem_of_getElem? (i := 884) (by decide +kernel), List.mem_of_getElem? (i := 885) (by decide +kernel)⟩
theorem lw_p33 : lw_okq (⟨"LacedHouseModel", "isIn", "(I)Z"⟩, 20) := ⟨⟨by decide +kernel, by decide +kernel⟩, List.mem_of_getElem? (i := 676) (by decide +kernel), List.mem_of_getElem? (i := 888) (by decide +kernel), List.mem_of_getElem? (i := 889) (by decide +kernel)⟩
theorem lw_p34 : lw_okq (⟨"LacedHouseModel", "goes", "(II)V"⟩, 20) := ⟨⟨by decide +kernel, by decide +kernel⟩, List.mem_of_getElem? (i := 676) (by decide +kernel), List.mem_of_getElem? (i := 892) (by decide +kernel), List.mem_of_getElem? (i := 893) (by decide +kernel)⟩
theorem lw_p35 : lw_okq (⟨"LacedHouseModel", "strains", "(I)V"⟩, 20) := ⟨⟨by decide +kernel, by decide +kernel⟩, List.mem_of_getElem? (i := 676) (by decide +kernel), List.mem_of_getElem? (i := 897) (by decide +kernel), List.mem_of_getElem? (i := 898) (by decide +kernel)⟩
theorem lw_p36 : lw_okq (⟨"LacedHouseModel", "stuckOnes", "()I"⟩, 20) := ⟨⟨by decide +kernel, by decide +kernel⟩, List.mem_of_getElem? (i := 676) (by decide +kernel), List.mem_of_getElem? (i := 905) (by decide +kernel), List.mem_of_getElem? (i := 906) (by decide +kernel)⟩
theorem lw_p37 : lw_okq (⟨"LacedHouseModel", "arrived", "()I"⟩, 20) := ⟨⟨by decide +kernel, by decide +kernel⟩, List.mem_of_getElem? (i := 676) (by decide +kernel), List.mem_of_getElem? (i := 909) (by decide +kernel), List.mem_of_getElem? (i := 910) (by decide +kernel)⟩
theorem lw_p38 : lw_okq (⟨"LacedHouseModel", "inTheHall", "()I"⟩, 20) := ⟨⟨by decide +kernel, by decide +kernel⟩, List.mem_of_getElem? (i := 676) (by decide +kernel), List.mem_of_getElem? (i := 913) (by decide +kernel), List.mem_of_getElem? (i := 914) (by decide +kernel)⟩
theorem lw_p39 : lw_okq (⟨"LacedHouseModel", "shutCells", "()I"⟩, 20) := ⟨⟨by decide +kernel, by decide +kernel⟩, List.mem_of_getElem? (i := 676) (by decide +kernel), List.mem_of_getElem? (i := 917) (by decide +kernel), List.mem_of_getElem? (i := 918) (by decide +kernel)⟩
theorem lw_p40 : lw_okq (⟨"LacedHouseModel", "putBack", "(I)I"⟩, 20) := ⟨⟨by decide +kernel, by decide +kernel⟩, List.mem_of_getElem? (i := 676) (by decide +kernel), List.mem_of_getElem? (i := 928) (by decide +kernel), List.mem_of_getElem? (i := 929) (by decide +kernel)⟩
theorem lw_p41 : lw_okq (⟨"LacedHouseModel", "behind", "(II)I"⟩, 20) := ⟨⟨by decide +kernel, by decide +kernel⟩, List.mem_of_getElem? (i := 676) (by decide +kernel), List.mem_of_getElem? (i := 936) (by decide +kernel), List.mem_of_getElem? (i := 937) (by decide +kernel)⟩
theorem lw_p42 : lw_okq (⟨"LacedHouseModel", "hoursTo", "(III)I"⟩, 20) := ⟨⟨by decide +kernel, by decide +kernel⟩, List.mem_of_getElem? (i := 676) (by decide +kernel), List.mem_of_getElem? (i := 944) (by decide +kernel), List.mem_of_getElem? (i := 945) (by decide +kernel)⟩
theorem lw_p43 : lw_okq (⟨"LacedHouseModel", "orNone", "(I)I"⟩, 20) := ⟨⟨by decide +kernel, by decide +kernel⟩, List.mem_of_getElem? (i := 676) (by decide +kernel), List.mem_of_getElem? (i := 948) (by decide +kernel), List.mem_of_getElem? (i := 949) (by decide +kernel)⟩
theorem lw_p44 : lw_okq (⟨"LacedHouseModel", "holds", "(II)Z"⟩, 20) := ⟨⟨by decide +kernel, by decide +kernel⟩, List.mem_of_getElem? (i := 676) (by decide +kernel), List.mem_of_getElem? (i := 987) (by decide +kernel), List.mem_of_getElem? (i := 988) (by decide +kernel)⟩
theorem lw_p45 : lw_okq (⟨"LacedHouseModel", "lacks", "(IZ)I"⟩, 20) := ⟨⟨by decide +kernel, by decide +kernel⟩, List.mem_of_getElem? (i := 676) (by decide +kernel), List.mem_of_getElem? (i := 995) (by decide +kernel), List.mem_of_getElem? (i := 996) (by decide +kernel)⟩
theorem lw_p46 : lw_okq (⟨"LacedHouseModel", "isSo", "(II)Z"⟩, 20) := ⟨⟨by decide +kernel, by decide +kernel⟩, List.mem_of_getElem? (i := 676) (by decide +kernel), List.mem_of_getElem? (i := 1003) (by decide +kernel), List.mem_of_getElem? (i := 1004) (by decide +kernel)⟩
theorem lw_p47 : lw_okq (⟨"LacedHouseModel", "drawn", "()I"⟩, 20) := ⟨⟨by decide +kernel, by decide +kernel⟩, List.mem_of_getElem? (i := 676) (by decide +kernel), List.mem_of_getElem? (i := 1015) (by decide +kernel), List.mem_of_getElem? (i := 1016) (by decide +kernel)⟩
def lw_privs_3 : List (MethodName × Nat) := [(⟨"LacedHouseModel", "placeNow", "()I"⟩, 20), (⟨"LacedHouseModel", "isIn", "(I)Z"⟩, 20), (⟨"LacedHouseModel", "goes", "(II)V"⟩, 20), (⟨"LacedHouseModel", "strains", "(I)V"⟩, 20), (⟨"LacedHouseModel", "stuckOnes", "()I"⟩, 20), (⟨"LacedHouseModel", "arrived", "()I"⟩, 20), (⟨"LacedHouseModel", "inTheHall", "()I"⟩, 20), (⟨"LacedHouseModel", "shutCells", "()I"⟩, 20), (⟨"LacedHouseModel", "putBack", "(I)I"⟩, 20), (⟨"LacedHouseModel", "behind", "(II)I"⟩, 20), (⟨"LacedHouseModel", "hoursTo", "(III)I"⟩, 20), (⟨"LacedHouseModel", "orNone", "(I)I"⟩, 20), (⟨"LacedHouseModel", "holds", "(II)Z"⟩, 20), (⟨"LacedHouseModel", "lacks", "(IZ)I"⟩, 20), (⟨"LacedHouseModel", "isSo", "(II)Z"⟩, 20), (⟨"LacedHouseModel", "drawn", "()I"⟩, 20)]
theorem lw_r3 : ∀ q ∈ lw_privs_3, lw_okq q := List.forall_mem_cons.mpr ⟨lw_p32, List.forall_mem_cons.mpr ⟨lw_p33, List.forall_mem_cons.mpr ⟨lw_p34, List.forall_mem_cons.mpr ⟨lw_p35, List.forall_mem_cons.mpr ⟨lw_p36, List.forall_mem_cons.mpr ⟨lw_p37, List.forall_mem_cons.mpr ⟨lw_p38, List.forall_mem_cons.mpr ⟨lw_p39, List.forall_mem_cons.mpr ⟨lw_p40, List.forall_mem_cons.mpr ⟨lw_p41, List.forall_mem_cons.mpr ⟨lw_p42, List.forall_mem_cons.mpr ⟨lw_p43, List.forall_mem_cons.mpr ⟨lw_p44, List.forall_mem_cons.mpr ⟨lw_p45, List.forall_mem_cons.mpr ⟨lw_p46, List.forall_mem_cons.mpr ⟨lw_p47, fun _ h => absurd h List.not_mem_nil⟩⟩⟩⟩⟩⟩⟩⟩⟩⟩⟩⟩⟩⟩⟩⟩
theorem lw_p48 : lw_okq (⟨"LacedHouseModel", "token", "()V"⟩, 20) := ⟨⟨by decide +kernel, by decide +kernel⟩, List.mem_of_getElem? (i := 676) (by decide +kernel), List.mem_of_getElem? (i := 1040) (by decide +kernel), List.mem_of_getElem? (i := 1041) (by decide +kernel)⟩
theorem lw_p49 : lw_okq (⟨"LacedHouseModel", "byteAt", "(I)I"⟩, 20) := ⟨⟨by decide +kernel, by decide +kernel⟩, List.mem_of_getElem? (i := 676) (by decide +kernel), List.mem_of_getElem? (i := 1044) (by decide +kernel), List.mem_of_getElem? (i := 1045) (by decide +kernel)⟩
theorem lw_p50 : lw_okq (⟨"LacedHouseModel", "readItem", "()V"⟩, 20) := ⟨⟨by decide +kernel, by decide +kernel⟩, List.mem_of_getElem? (i := 676) (by decide +kernel), List.mem_of_getElem? (i := 1048) (by decide +kernel), List.mem_of_getElem? (i := 1049) (by decide +kernel)⟩
theorem lw_p51 : lw_okq (⟨"LacedHouseModel", "isWord", "(Ljava/lang/String;)Z"⟩, 20) := ⟨⟨by decide +kernel, by decide +kernel⟩, List.mem_of_getElem? (i := 676) (by decide +kernel), List.mem_of_getElem? (i := 1052) (by decide +kernel), List.mem_of_getElem? (i := 1053) (by decide +kernel)⟩
theorem lw_p52 : lw_okq (⟨"LacedHouseModel", "readGuest", "(I)V"⟩, 20) := ⟨⟨by decide +kernel, by decide +kernel⟩, List.mem_of_getElem? (i := 676) (by decide +kernel), List.mem_of_getElem? (i := 1058) (by decide +kernel), List.mem_of_getElem? (i := 1059) (by decide +kernel)⟩
theorem lw_p53 : lw_okq (⟨"LacedHouseModel", "must", "(Z)V"⟩, 20) := ⟨⟨by decide +kernel, by decide +kernel⟩, List.mem_of_getElem? (i := 676) (by decide +kernel), List.mem_of_getElem? (i := 1062) (by decide +kernel), List.mem_of_getElem? (i := 1063) (by decide +kernel)⟩
theorem lw_p54 : lw_okq (⟨"LacedHouseModel", "takesWord", "(Ljava/lang/String;)Z"⟩, 20) := ⟨⟨by decide +kernel, by decide +kernel⟩, List.mem_of_getElem? (i := 676) (by decide +kernel), List.mem_of_getElem? (i := 1067) (by decide +kernel), List.mem_of_getElem? (i := 1068) (by decide +kernel)⟩
theorem lw_p55 : lw_okq (⟨"LacedHouseModel", "number", "(II)I"⟩, 20) := ⟨⟨by decide +kernel, by decide +kernel⟩, List.mem_of_getElem? (i := 676) (by decide +kernel), List.mem_of_getElem? (i := 1071) (by decide +kernel), List.mem_of_getElem? (i := 1072) (by decide +kernel)⟩
theorem lw_p56 : lw_okq (⟨"LacedHouseModel", "addItem", "(IIII)V"⟩, 20) := ⟨⟨by decide +kernel, by decide +kernel⟩, List.mem_of_getElem? (i := 676) (by decide +kernel), List.mem_of_getElem? (i := 1077) (by decide +kernel), List.mem_of_getElem? (i := 1078) (by decide +kernel)⟩
theorem lw_p57 : lw_okq (⟨"LacedHouseModel", "isToldSo", "(I)V"⟩, 20) := ⟨⟨by decide +kernel, by decide +kernel⟩, List.mem_of_getElem? (i := 676) (by decide +kernel), List.mem_of_getElem? (i := 1084) (by decide +kernel), List.mem_of_getElem? (i := 1085) (by decide +kernel)⟩
def lw_privs_4 : List (MethodName × Nat) := [(⟨"LacedHouseModel", "token", "()V"⟩, 20), (⟨"LacedHouseModel", "byteAt", "(I)I"⟩, 20), (⟨"LacedHouseModel", "readItem", "()V"⟩, 20), (⟨"LacedHouseModel", "isWord", "(Ljava/lang/String;)Z"⟩, 20), (⟨"LacedHouseModel", "readGuest", "(I)V"⟩, 20), (⟨"LacedHouseModel", "must", "(Z)V"⟩, 20), (⟨"LacedHouseModel", "takesWord", "(Ljava/lang/String;)Z"⟩, 20), (⟨"LacedHouseModel", "number", "(II)I"⟩, 20), (⟨"LacedHouseModel", "addItem", "(IIII)V"⟩, 20), (⟨"LacedHouseModel", "isToldSo", "(I)V"⟩, 20)]
theorem lw_r4 : ∀ q ∈ lw_privs_4, lw_okq q := List.forall_mem_cons.mpr ⟨lw_p48, List.forall_mem_cons.mpr ⟨lw_p49, List.forall_mem_cons.mpr ⟨lw_p50, List.forall_mem_cons.mpr ⟨lw_p51, List.forall_mem_cons.mpr ⟨lw_p52, List.forall_mem_cons.mpr ⟨lw_p53, List.forall_mem_cons.mpr ⟨lw_p54, List.forall_mem_cons.mpr ⟨lw_p55, List.forall_mem_cons.mpr ⟨lw_p56, List.forall_mem_cons.mpr ⟨lw_p57, fun _ h => absurd h List.not_mem_nil⟩⟩⟩⟩⟩⟩⟩⟩⟩⟩
def lw_privs : List (MethodName × Nat) := lw_privs_1 ++ (lw_privs_2 ++ (lw_privs_3 ++ (lw_privs_4)))
def lw_tbl : List Cond := k2_sels lw_privs ++ tables_1
theorem lw_privs_ok : ∀ q ∈ lw_privs, lw_okq q := by
  show ∀ q ∈ lw_privs_1 ++ (lw_privs_2 ++ (lw_privs_3 ++ (lw_privs_4))), lw_okq q
  exact List.forall_mem_append.mpr ⟨lw_r1, List.forall_mem_append.mpr ⟨lw_r2, List.forall_mem_append.mpr ⟨lw_r3, lw_r4⟩⟩⟩
end
section
def RX0 : String := "LacedHouse$House"
def TX0 : u_T := fun k => match k with
  | 0 => ("LacedHouse$House", "bases", "[I", true)
  | 1 => ("LacedHouse$House", "list", "[I", true)
  | 2 => ("LacedHouse$House", "cord", "I", false)
  | 3 => ("LacedHouse$House", "strain", "I", false)
  | 4 => ("LacedHouse$House", "snapped", "I", false)
  | 5 => ("LacedHouse$House", "hour", "I", false)
  | 6 => ("LacedHouse$House", "count", "I", false)
  | 7 => ("LacedHouse$House", "kind", "[I", true)
  | 8 => ("LacedHouse$House", "at", "[I", true)
  | 9 => ("LacedHouse$House", "size", "[I", true)
  | 10 => ("LacedHouse$House", "aim", "[I", true)
  | 11 => ("LacedHouse$House", "stuck", "[I", true)
  | 12 => ("LacedHouse$House", "home", "[I", true)
  | 13 => ("LacedHouse$House", "z", "I", false)
  | _ => ("LacedHouse$House", "spots", "[I", true)
def tyX0 : Nat → FieldType := fun k => match k with
  | 0 => .array .int
  | 1 => .array .int
  | 2 => .int
  | 3 => .int
  | 4 => .int
  | 5 => .int
  | 6 => .int
  | 7 => .array .int
  | 8 => .array .int
  | 9 => .array .int
  | 10 => .array .int
  | 11 => .array .int
  | 12 => .array .int
  | 13 => .int
  | _ => .array .int
theorem nmX0 : ∀ a, a < 15 → ∀ b, b < 15 → a ≠ b → (TX0 a).2.1 ≠ (TX0 b).2.1 := by decide +kernel
theorem tyX0_ok : ∀ k, k < 15 → parseFieldDescriptor (TX0 k).2.2.1 = some (tyX0 k) := by decide +kernel
abbrev cX0_init : ByteArray := prog_2_method_1_code
def yX0_init : MethodName := ⟨RX0, "<init>", "()V"⟩
abbrev cX0_become : ByteArray := prog_2_method_2_code
def yX0_become : MethodName := ⟨RX0, "become", "(LLacedHouse$House;)V"⟩
abbrev cX0_isFull : ByteArray := prog_2_method_3_code
def yX0_isFull : MethodName := ⟨RX0, "isFull", "()Z"⟩
abbrev cX0_add : ByteArray := prog_2_method_4_code
def yX0_add : MethodName := ⟨RX0, "add", "(II)I"⟩
abbrev cX0_sendHome : ByteArray := prog_2_method_5_code
def yX0_sendHome : MethodName := ⟨RX0, "sendHome", "(I)V"⟩
abbrev cX0_trait : ByteArray := prog_2_method_6_code
def yX0_trait : MethodName := ⟨RX0, "trait", "(I)[I"⟩
abbrev cX0_needs : ByteArray := prog_2_method_7_code
def yX0_needs : MethodName := ⟨RX0, "needs", "(I)I"⟩
abbrev cX0_placeNow : ByteArray := prog_2_method_8_code
def yX0_placeNow : MethodName := ⟨RX0, "placeNow", "()I"⟩
abbrev cX0_measureNow : ByteArray := prog_2_method_9_code
def yX0_measureNow : MethodName := ⟨RX0, "measureNow", "()I"⟩
abbrev cX0_width : ByteArray := prog_2_method_10_code
def yX0_width : MethodName := ⟨RX0, "width", "(II)I"⟩
abbrev cX0_reachable : ByteArray := prog_2_method_11_code
def yX0_reachable : MethodName := ⟨RX0, "reachable", "(II)I"⟩
abbrev cX0_canReach : ByteArray := prog_2_method_12_code
def yX0_canReach : MethodName := ⟨RX0, "canReach", "(III)Z"⟩
abbrev cX0_measuresToAim : ByteArray := prog_2_method_13_code
def yX0_measuresToAim : MethodName := ⟨RX0, "measuresToAim", "(I)I"⟩
abbrev cX0_passHours : ByteArray := prog_2_method_14_code
def yX0_passHours : MethodName := ⟨RX0, "passHours", "(I)V"⟩
abbrev cX0_holdsFor : ByteArray := prog_2_method_15_code
def yX0_holdsFor : MethodName := ⟨RX0, "holdsFor", "(I)Z"⟩
abbrev cX0_passHour : ByteArray := prog_2_method_16_code
def yX0_passHour : MethodName := ⟨RX0, "passHour", "()V"⟩
abbrev cX0_walk : ByteArray := prog_2_method_17_code
def yX0_walk : MethodName := ⟨RX0, "walk", "(II)V"⟩
abbrev cX0_pull : ByteArray := prog_2_method_18_code
def yX0_pull : MethodName := ⟨RX0, "pull", "(I)V"⟩
abbrev cX0_draw : ByteArray := prog_2_method_19_code
def yX0_draw : MethodName := ⟨RX0, "draw", "()I"⟩
abbrev cX0_passPartyHour : ByteArray := prog_2_method_20_code
def yX0_passPartyHour : MethodName := ⟨RX0, "passPartyHour", "()V"⟩
abbrev cX0_thoseStuck : ByteArray := prog_2_method_21_code
def yX0_thoseStuck : MethodName := ⟨RX0, "thoseStuck", "()I"⟩
abbrev cX0_thoseAtAim : ByteArray := prog_2_method_22_code
def yX0_thoseAtAim : MethodName := ⟨RX0, "thoseAtAim", "()I"⟩
abbrev cX0_thoseInHall : ByteArray := prog_2_method_23_code
def yX0_thoseInHall : MethodName := ⟨RX0, "thoseInHall", "()I"⟩
abbrev cX0_closedCells : ByteArray := prog_2_method_24_code
def yX0_closedCells : MethodName := ⟨RX0, "closedCells", "()I"⟩
abbrev cX0_howManyHome : ByteArray := prog_2_method_25_code
def yX0_howManyHome : MethodName := ⟨RX0, "howManyHome", "()I"⟩
abbrev cX0_howManyHeld : ByteArray := prog_2_method_26_code
def yX0_howManyHeld : MethodName := ⟨RX0, "howManyHeld", "()I"⟩
def RX1 : String := "LacedHouse$Kinds"
def TX1 : u_T := fun k => match k with
  | _ => ("", "", "", false)
def tyX1 : Nat → FieldType := fun k => match k with
  | _ => .int
theorem nmX1 : ∀ a, a < 0 → ∀ b, b < 0 → a ≠ b → (TX1 a).2.1 ≠ (TX1 b).2.1 := by decide +kernel
theorem tyX1_ok : ∀ k, k < 0 → parseFieldDescriptor (TX1 k).2.2.1 = some (tyX1 k) := by decide +kernel
abbrev cX1_needs : ByteArray := prog_3_method_2_code
def yX1_needs : MethodName := ⟨RX1, "needs", "(IIII)I"⟩
abbrev cX1_steps : ByteArray := prog_3_method_3_code
def yX1_steps : MethodName := ⟨RX1, "steps", "(I)I"⟩
abbrev cX1_laughs : ByteArray := prog_3_method_4_code
def yX1_laughs : MethodName := ⟨RX1, "laughs", "(II)I"⟩
abbrev cX1_laces : ByteArray := prog_3_method_5_code
def yX1_laces : MethodName := ⟨RX1, "laces", "(I)I"⟩
abbrev cX1_isUnder : ByteArray := prog_3_method_6_code
def yX1_isUnder : MethodName := ⟨RX1, "isUnder", "(II)Z"⟩
def RX2 : String := "LacedHouse$Sheets"
def TX2 : u_T := fun k => match k with
  | 0 => ("LacedHouse$Sheets", "numbers", "[[I", true)
  | 1 => ("LacedHouse$Sheets", "bits", "[I", true)
  | _ => ("LacedHouse$Sheets", "length", "[I", true)
def tyX2 : Nat → FieldType := fun k => match k with
  | 0 => .array (.array .int)
  | 1 => .array .int
  | _ => .array .int
theorem nmX2 : ∀ a, a < 3 → ∀ b, b < 3 → a ≠ b → (TX2 a).2.1 ≠ (TX2 b).2.1 := by decide +kernel
theorem tyX2_ok : ∀ k, k < 3 → parseFieldDescriptor (TX2 k).2.2.1 = some (tyX2 k) := by decide +kernel
abbrev cX2_init : ByteArray := prog_4_method_1_code
def yX2_init : MethodName := ⟨RX2, "<init>", "()V"⟩
abbrev cX2_isSheet : ByteArray := prog_4_method_2_code
def yX2_isSheet : MethodName := ⟨RX2, "isSheet", "(I)Z"⟩
abbrev cX2_areBits : ByteArray := prog_4_method_3_code
def yX2_areBits : MethodName := ⟨RX2, "areBits", "(I)Z"⟩
abbrev cX2_isMissing : ByteArray := prog_4_method_4_code
def yX2_isMissing : MethodName := ⟨RX2, "isMissing", "(I)Z"⟩
abbrev cX2_make : ByteArray := prog_4_method_5_code
def yX2_make : MethodName := ⟨RX2, "make", "(III)I"⟩
abbrev cX2_put : ByteArray := prog_4_method_6_code
def yX2_put : MethodName := ⟨RX2, "put", "(III)V"⟩
abbrev cX2_hasRange : ByteArray := prog_4_method_7_code
def yX2_hasRange : MethodName := ⟨RX2, "hasRange", "(III)Z"⟩
def RX3 : String := "LacedHouse$Tape"
def TX3 : u_T := fun k => match k with
  | 0 => ("LacedHouse$Tape", "bytes", "[I", true)
  | 1 => ("LacedHouse$Tape", "length", "I", false)
  | 2 => ("LacedHouse$Tape", "place", "I", false)
  | 3 => ("LacedHouse$Tape", "token", "I", false)
  | 4 => ("LacedHouse$Tape", "start", "I", false)
  | _ => ("LacedHouse$Tape", "number", "I", false)
def tyX3 : Nat → FieldType := fun k => match k with
  | 0 => .array .int
  | 1 => .int
  | 2 => .int
  | 3 => .int
  | 4 => .int
  | _ => .int
theorem nmX3 : ∀ a, a < 6 → ∀ b, b < 6 → a ≠ b → (TX3 a).2.1 ≠ (TX3 b).2.1 := by decide +kernel
theorem tyX3_ok : ∀ k, k < 6 → parseFieldDescriptor (TX3 k).2.2.1 = some (tyX3 k) := by decide +kernel
abbrev cX3_init : ByteArray := prog_5_method_1_code
def yX3_init : MethodName := ⟨RX3, "<init>", "()V"⟩
abbrev cX3_hasRoomFor : ByteArray := prog_5_method_2_code
def yX3_hasRoomFor : MethodName := ⟨RX3, "hasRoomFor", "(I)Z"⟩
abbrev cX3_add : ByteArray := prog_5_method_3_code
def yX3_add : MethodName := ⟨RX3, "add", "(I)V"⟩
abbrev cX3_read : ByteArray := prog_5_method_4_code
def yX3_read : MethodName := ⟨RX3, "read", "(LLacedHouse$House;)I"⟩
abbrev cX3_readItem : ByteArray := prog_5_method_5_code
def yX3_readItem : MethodName := ⟨RX3, "readItem", "(LLacedHouse$House;)Z"⟩
abbrev cX3_readGuest : ByteArray := prog_5_method_6_code
def yX3_readGuest : MethodName := ⟨RX3, "readGuest", "(LLacedHouse$House;I)Z"⟩
abbrev cX3_readTrait : ByteArray := prog_5_method_7_code
def yX3_readTrait : MethodName := ⟨RX3, "readTrait", "(Ljava/lang/String;[IIII)Z"⟩
abbrev cX3_readPair : ByteArray := prog_5_method_8_code
def yX3_readPair : MethodName := ⟨RX3, "readPair", "([III)Z"⟩
abbrev cX3_takeNumber : ByteArray := prog_5_method_9_code
def yX3_takeNumber : MethodName := ⟨RX3, "takeNumber", "(II)Z"⟩
abbrev cX3_kindTold : ByteArray := prog_5_method_10_code
def yX3_kindTold : MethodName := ⟨RX3, "kindTold", "()I"⟩
abbrev cX3_wordOf : ByteArray := prog_5_method_11_code
def yX3_wordOf : MethodName := ⟨RX3, "wordOf", "(I)Ljava/lang/String;"⟩
abbrev cX3_isWord : ByteArray := prog_5_method_12_code
def yX3_isWord : MethodName := ⟨RX3, "isWord", "(Ljava/lang/String;)Z"⟩
abbrev cX3_next : ByteArray := prog_5_method_13_code
def yX3_next : MethodName := ⟨RX3, "next", "()V"⟩
abbrev cX3_isLetter : ByteArray := prog_5_method_14_code
def yX3_isLetter : MethodName := ⟨RX3, "isLetter", "(I)Z"⟩
abbrev cX3_isDigit : ByteArray := prog_5_method_15_code
def yX3_isDigit : MethodName := ⟨RX3, "isDigit", "(I)Z"⟩
def RX4 : String := "LacedHouse"
def TX4 : u_T := fun k => match k with
  | 0 => ("LacedHouse", "house", "LLacedHouse$House;", true)
  | 1 => ("LacedHouse", "kept", "LLacedHouse$House;", true)
  | 2 => ("LacedHouse", "trial", "LLacedHouse$House;", true)
  | 3 => ("LacedHouse", "isKept", "Z", false)
  | 4 => ("LacedHouse", "sheets", "LLacedHouse$Sheets;", true)
  | 5 => ("LacedHouse", "tape", "LLacedHouse$Tape;", true)
  | _ => ("LacedHouse", "findings", "[I", true)
def tyX4 : Nat → FieldType := fun k => match k with
  | 0 => .object "LacedHouse$House"
  | 1 => .object "LacedHouse$House"
  | 2 => .object "LacedHouse$House"
  | 3 => .boolean
  | 4 => .object "LacedHouse$Sheets"
  | 5 => .object "LacedHouse$Tape"
  | _ => .array .int
theorem nmX4 : ∀ a, a < 7 → ∀ b, b < 7 → a ≠ b → (TX4 a).2.1 ≠ (TX4 b).2.1 := by decide +kernel
theorem tyX4_ok : ∀ k, k < 7 → parseFieldDescriptor (TX4 k).2.2.1 = some (tyX4 k) := by decide +kernel
abbrev cX4_init : ByteArray := prog_1_method_1_code
def yX4_init : MethodName := ⟨RX4, "<init>", "()V"⟩
abbrev cX4_set : ByteArray := prog_1_method_2_code
def yX4_set : MethodName := ⟨RX4, "set", "(II)I"⟩
abbrev cX4_cell : ByteArray := prog_1_method_3_code
def yX4_cell : MethodName := ⟨RX4, "cell", "(II)I"⟩
abbrev cX4_measure : ByteArray := prog_1_method_4_code
def yX4_measure : MethodName := ⟨RX4, "measure", "(II)I"⟩
abbrev cX4_listed : ByteArray := prog_1_method_5_code
def yX4_listed : MethodName := ⟨RX4, "listed", "(I)I"⟩
abbrev cX4_wide : ByteArray := prog_1_method_6_code
def yX4_wide : MethodName := ⟨RX4, "wide", "(II)I"⟩
abbrev cX4_guest : ByteArray := prog_1_method_7_code
def yX4_guest : MethodName := ⟨RX4, "guest", "(II)I"⟩
abbrev cX4_of : ByteArray := prog_1_method_8_code
def yX4_of : MethodName := ⟨RX4, "of", "(II)I"⟩
abbrev cX4_change : ByteArray := prog_1_method_9_code
def yX4_change : MethodName := ⟨RX4, "change", "(III)I"⟩
abbrev cX4_reach : ByteArray := prog_1_method_10_code
def yX4_reach : MethodName := ⟨RX4, "reach", "(II)I"⟩
abbrev cX4_go : ByteArray := prog_1_method_11_code
def yX4_go : MethodName := ⟨RX4, "go", "(I)I"⟩
abbrev cX4_now : ByteArray := prog_1_method_12_code
def yX4_now : MethodName := ⟨RX4, "now", "(I)I"⟩
abbrev cX4_ahead : ByteArray := prog_1_method_13_code
def yX4_ahead : MethodName := ⟨RX4, "ahead", "(III)I"⟩
abbrev cX4_strain : ByteArray := prog_1_method_14_code
def yX4_strain : MethodName := ⟨RX4, "strain", "(I)I"⟩
abbrev cX4_snaps : ByteArray := prog_1_method_15_code
def yX4_snaps : MethodName := ⟨RX4, "snaps", "()I"⟩
abbrev cX4_comes : ByteArray := prog_1_method_16_code
def yX4_comes : MethodName := ⟨RX4, "comes", "(II)I"⟩
abbrev cX4_stuck : ByteArray := prog_1_method_17_code
def yX4_stuck : MethodName := ⟨RX4, "stuck", "(II)I"⟩
abbrev cX4_tight : ByteArray := prog_1_method_18_code
def yX4_tight : MethodName := ⟨RX4, "tight", "(II)I"⟩
abbrev cX4_measureFor : ByteArray := prog_1_method_19_code
def yX4_measureFor : MethodName := ⟨RX4, "measureFor", "(II)I"⟩
abbrev cX4_kindFor : ByteArray := prog_1_method_20_code
def yX4_kindFor : MethodName := ⟨RX4, "kindFor", "(II)I"⟩
abbrev cX4_sizeFor : ByteArray := prog_1_method_21_code
def yX4_sizeFor : MethodName := ⟨RX4, "sizeFor", "(II)I"⟩
abbrev cX4_send : ByteArray := prog_1_method_22_code
def yX4_send : MethodName := ⟨RX4, "send", "(I)I"⟩
abbrev cX4_fits : ByteArray := prog_1_method_23_code
def yX4_fits : MethodName := ⟨RX4, "fits", "(II)I"⟩
abbrev cX4_kinds : ByteArray := prog_1_method_24_code
def yX4_kinds : MethodName := ⟨RX4, "kinds", "(II)I"⟩
abbrev cX4_party : ByteArray := prog_1_method_25_code
def yX4_party : MethodName := ⟨RX4, "party", "(I)I"⟩
abbrev cX4_odds : ByteArray := prog_1_method_26_code
def yX4_odds : MethodName := ⟨RX4, "odds", "(III)J"⟩
abbrev cX4_seed : ByteArray := prog_1_method_27_code
def yX4_seed : MethodName := ⟨RX4, "seed", "(I)I"⟩
abbrev cX4_feed : ByteArray := prog_1_method_28_code
def yX4_feed : MethodName := ⟨RX4, "feed", "(II)I"⟩
abbrev cX4_wipe : ByteArray := prog_1_method_29_code
def yX4_wipe : MethodName := ⟨RX4, "wipe", "()I"⟩
abbrev cX4_text : ByteArray := prog_1_method_30_code
def yX4_text : MethodName := ⟨RX4, "text", "()I"⟩
abbrev cX4_hold : ByteArray := prog_1_method_31_code
def yX4_hold : MethodName := ⟨RX4, "hold", "(II)I"⟩
abbrev cX4_as : ByteArray := prog_1_method_32_code
def yX4_as : MethodName := ⟨RX4, "as", "(II)I"⟩
abbrev cX4_sheet : ByteArray := prog_1_method_33_code
def yX4_sheet : MethodName := ⟨RX4, "sheet", "(III)I"⟩
abbrev cX4_write : ByteArray := prog_1_method_34_code
def yX4_write : MethodName := ⟨RX4, "write", "(III)I"⟩
abbrev cX4_copy : ByteArray := prog_1_method_35_code
def yX4_copy : MethodName := ⟨RX4, "copy", "(IIIII)I"⟩
abbrev cX4_load : ByteArray := prog_1_method_36_code
def yX4_load : MethodName := ⟨RX4, "load", "(I)I"⟩
abbrev cX4_judge : ByteArray := prog_1_method_37_code
def yX4_judge : MethodName := ⟨RX4, "judge", "(I)I"⟩
abbrev cX4_image : ByteArray := prog_1_method_38_code
def yX4_image : MethodName := ⟨RX4, "image", "()I"⟩
abbrev cX4_undo : ByteArray := prog_1_method_39_code
def yX4_undo : MethodName := ⟨RX4, "undo", "()I"⟩
abbrev cX4_tear : ByteArray := prog_1_method_40_code
def yX4_tear : MethodName := ⟨RX4, "tear", "()I"⟩
abbrev cX4_count : ByteArray := prog_1_method_41_code
def yX4_count : MethodName := ⟨RX4, "count", "(I)I"⟩
abbrev cX4_status : ByteArray := prog_1_method_42_code
def yX4_status : MethodName := ⟨RX4, "status", "(I)I"⟩
abbrev cX4_found : ByteArray := prog_1_method_43_code
def yX4_found : MethodName := ⟨RX4, "found", "(I)I"⟩
abbrev cX4_within : ByteArray := prog_1_method_44_code
def yX4_within : MethodName := ⟨RX4, "within", "(III)Z"⟩
abbrev cX4_isCell : ByteArray := prog_1_method_45_code
def yX4_isCell : MethodName := ⟨RX4, "isCell", "(I)Z"⟩
abbrev cX4_isListed : ByteArray := prog_1_method_46_code
def yX4_isListed : MethodName := ⟨RX4, "isListed", "(I)Z"⟩
abbrev cX4_isMeasure : ByteArray := prog_1_method_47_code
def yX4_isMeasure : MethodName := ⟨RX4, "isMeasure", "(I)Z"⟩
abbrev cX4_isKind : ByteArray := prog_1_method_48_code
def yX4_isKind : MethodName := ⟨RX4, "isKind", "(I)Z"⟩
abbrev cX4_isSpot : ByteArray := prog_1_method_49_code
def yX4_isSpot : MethodName := ⟨RX4, "isSpot", "(I)Z"⟩
abbrev cX4_isGuest : ByteArray := prog_1_method_50_code
def yX4_isGuest : MethodName := ⟨RX4, "isGuest", "(I)Z"⟩
abbrev cX4_startTrial : ByteArray := prog_1_method_51_code
def yX4_startTrial : MethodName := ⟨RX4, "startTrial", "()V"⟩
abbrev cX4_lackOfSheet : ByteArray := prog_1_method_52_code
def yX4_lackOfSheet : MethodName := ⟨RX4, "lackOfSheet", "(I)I"⟩
abbrev cX4_lackOfTold : ByteArray := prog_1_method_53_code
def yX4_lackOfTold : MethodName := ⟨RX4, "lackOfTold", "(II)I"⟩
abbrev cX4_trialGoesAsTold : ByteArray := prog_1_method_54_code
def yX4_trialGoesAsTold : MethodName := ⟨RX4, "trialGoesAsTold", "(II)Z"⟩
abbrev cX4_commonDivisor : ByteArray := prog_1_method_55_code
def yX4_commonDivisor : MethodName := ⟨RX4, "commonDivisor", "(II)I"⟩
def RX5 : String := "LacedHouseModel"
def TX5 : u_T := fun k => match k with
  | 0 => ("LacedHouseModel", "now", "[I", true)
  | 1 => ("LacedHouseModel", "kept", "[I", true)
  | 2 => ("LacedHouseModel", "aside", "[I", true)
  | 3 => ("LacedHouseModel", "isKept", "Z", false)
  | 4 => ("LacedHouseModel", "found", "[I", true)
  | 5 => ("LacedHouseModel", "tape", "[I", true)
  | 6 => ("LacedHouseModel", "taped", "I", false)
  | 7 => ("LacedHouseModel", "begins", "I", false)
  | 8 => ("LacedHouseModel", "ends", "I", false)
  | 9 => ("LacedHouseModel", "sort", "I", false)
  | 10 => ("LacedHouseModel", "value", "I", false)
  | 11 => ("LacedHouseModel", "isWrong", "Z", false)
  | 12 => ("LacedHouseModel", "kindNames", "[Ljava/lang/String;", true)
  | 13 => ("LacedHouseModel", "items", "[I", true)
  | 14 => ("LacedHouseModel", "itemMany", "I", false)
  | 15 => ("LacedHouseModel", "guestsThen", "I", false)
  | 16 => ("LacedHouseModel", "widths", "[I", true)
  | 17 => ("LacedHouseModel", "sizes", "[I", true)
  | 18 => ("LacedHouseModel", "numbers", "[I", true)
  | _ => ("LacedHouseModel", "moved", "[I", true)
def tyX5 : Nat → FieldType := fun k => match k with
  | 0 => .array .int
  | 1 => .array .int
  | 2 => .array .int
  | 3 => .boolean
  | 4 => .array .int
  | 5 => .array .int
  | 6 => .int
  | 7 => .int
  | 8 => .int
  | 9 => .int
  | 10 => .int
  | 11 => .boolean
  | 12 => .array (.object "java/lang/String")
  | 13 => .array .int
  | 14 => .int
  | 15 => .int
  | 16 => .array .int
  | 17 => .array .int
  | 18 => .array .int
  | _ => .array .int
theorem nmX5 : ∀ a, a < 20 → ∀ b, b < 20 → a ≠ b → (TX5 a).2.1 ≠ (TX5 b).2.1 := by decide +kernel
theorem tyX5_ok : ∀ k, k < 20 → parseFieldDescriptor (TX5 k).2.2.1 = some (tyX5 k) := by decide +kernel
abbrev cX5_init : ByteArray := prog_7_method_1_code
def yX5_init : MethodName := ⟨RX5, "<init>", "()V"⟩
abbrev cX5_finding : ByteArray := prog_7_method_2_code
def yX5_finding : MethodName := ⟨RX5, "finding", "(I)I"⟩
abbrev cX5_within : ByteArray := prog_7_method_3_code
def yX5_within : MethodName := ⟨RX5, "within", "(III)Z"⟩
abbrev cX5_become : ByteArray := prog_7_method_4_code
def yX5_become : MethodName := ⟨RX5, "become", "(II)I"⟩
abbrev cX5_copyRow : ByteArray := prog_7_method_5_code
def yX5_copyRow : MethodName := ⟨RX5, "copyRow", "([I[I)V"⟩
abbrev cX5_putBack : ByteArray := prog_7_method_6_code
def yX5_putBack : MethodName := ⟨RX5, "putBack", "(I)I"⟩
abbrev cX5_orNone : ByteArray := prog_7_method_7_code
def yX5_orNone : MethodName := ⟨RX5, "orNone", "(I)I"⟩
abbrev cX5_bits : ByteArray := prog_7_method_8_code
def yX5_bits : MethodName := ⟨RX5, "bits", "(I)I"⟩
abbrev cX5_isCell : ByteArray := prog_7_method_9_code
def yX5_isCell : MethodName := ⟨RX5, "isCell", "(I)Z"⟩
abbrev cX5_isMeasure : ByteArray := prog_7_method_10_code
def yX5_isMeasure : MethodName := ⟨RX5, "isMeasure", "(I)Z"⟩
abbrev cX5_isOften : ByteArray := prog_7_method_11_code
def yX5_isOften : MethodName := ⟨RX5, "isOften", "(I)Z"⟩
abbrev cX5_isBase : ByteArray := prog_7_method_12_code
def yX5_isBase : MethodName := ⟨RX5, "isBase", "(I)Z"⟩
abbrev cX5_set : ByteArray := prog_7_method_13_code
def yX5_set : MethodName := ⟨RX5, "set", "(II)I"⟩
abbrev cX5_cell : ByteArray := prog_7_method_14_code
def yX5_cell : MethodName := ⟨RX5, "cell", "(II)I"⟩
abbrev cX5_isPlace : ByteArray := prog_7_method_15_code
def yX5_isPlace : MethodName := ⟨RX5, "isPlace", "(I)Z"⟩
abbrev cX5_measure : ByteArray := prog_7_method_16_code
def yX5_measure : MethodName := ⟨RX5, "measure", "(II)I"⟩
abbrev cX5_listed : ByteArray := prog_7_method_17_code
def yX5_listed : MethodName := ⟨RX5, "listed", "(I)I"⟩
abbrev cX5_placeNow : ByteArray := prog_7_method_18_code
def yX5_placeNow : MethodName := ⟨RX5, "placeNow", "()I"⟩
abbrev cX5_measureNow : ByteArray := prog_7_method_19_code
def yX5_measureNow : MethodName := ⟨RX5, "measureNow", "()I"⟩
abbrev cX5_wideAt : ByteArray := prog_7_method_20_code
def yX5_wideAt : MethodName := ⟨RX5, "wideAt", "(II)I"⟩
abbrev cX5_wide : ByteArray := prog_7_method_21_code
def yX5_wide : MethodName := ⟨RX5, "wide", "(II)I"⟩
abbrev cX5_guestAt : ByteArray := prog_7_method_22_code
def yX5_guestAt : MethodName := ⟨RX5, "guestAt", "(II)I"⟩
abbrev cX5_guestIs : ByteArray := prog_7_method_23_code
def yX5_guestIs : MethodName := ⟨RX5, "guestIs", "(II)I"⟩
abbrev cX5_isGuest : ByteArray := prog_7_method_24_code
def yX5_isGuest : MethodName := ⟨RX5, "isGuest", "(I)Z"⟩
abbrev cX5_isKind : ByteArray := prog_7_method_25_code
def yX5_isKind : MethodName := ⟨RX5, "isKind", "(I)Z"⟩
abbrev cX5_comesIn : ByteArray := prog_7_method_26_code
def yX5_comesIn : MethodName := ⟨RX5, "comesIn", "(II)I"⟩
abbrev cX5_guest : ByteArray := prog_7_method_27_code
def yX5_guest : MethodName := ⟨RX5, "guest", "(II)I"⟩
abbrev cX5_needs : ByteArray := prog_7_method_28_code
def yX5_needs : MethodName := ⟨RX5, "needs", "(I)I"⟩
abbrev cX5_steps : ByteArray := prog_7_method_29_code
def yX5_steps : MethodName := ⟨RX5, "steps", "(I)I"⟩
abbrev cX5_laughs : ByteArray := prog_7_method_30_code
def yX5_laughs : MethodName := ⟨RX5, "laughs", "(I)I"⟩
abbrev cX5_laces : ByteArray := prog_7_method_31_code
def yX5_laces : MethodName := ⟨RX5, "laces", "(I)I"⟩
abbrev cX5_told : ByteArray := prog_7_method_32_code
def yX5_told : MethodName := ⟨RX5, "told", "(II)I"⟩
abbrev cX5_of : ByteArray := prog_7_method_33_code
def yX5_of : MethodName := ⟨RX5, "of", "(II)I"⟩
abbrev cX5_isField : ByteArray := prog_7_method_34_code
def yX5_isField : MethodName := ⟨RX5, "isField", "(II)Z"⟩
abbrev cX5_change : ByteArray := prog_7_method_35_code
def yX5_change : MethodName := ⟨RX5, "change", "(III)I"⟩
abbrev cX5_reachOf : ByteArray := prog_7_method_36_code
def yX5_reachOf : MethodName := ⟨RX5, "reachOf", "(II)I"⟩
abbrev cX5_reach : ByteArray := prog_7_method_37_code
def yX5_reach : MethodName := ⟨RX5, "reach", "(II)I"⟩
abbrev cX5_goes : ByteArray := prog_7_method_38_code
def yX5_goes : MethodName := ⟨RX5, "goes", "(II)V"⟩
abbrev cX5_isIn : ByteArray := prog_7_method_39_code
def yX5_isIn : MethodName := ⟨RX5, "isIn", "(I)Z"⟩
abbrev cX5_strains : ByteArray := prog_7_method_40_code
def yX5_strains : MethodName := ⟨RX5, "strains", "(I)V"⟩
abbrev cX5_hour : ByteArray := prog_7_method_41_code
def yX5_hour : MethodName := ⟨RX5, "hour", "()V"⟩
abbrev cX5_hoursGo : ByteArray := prog_7_method_42_code
def yX5_hoursGo : MethodName := ⟨RX5, "hoursGo", "(I)V"⟩
abbrev cX5_go : ByteArray := prog_7_method_43_code
def yX5_go : MethodName := ⟨RX5, "go", "(I)I"⟩
abbrev cX5_stuckOnes : ByteArray := prog_7_method_44_code
def yX5_stuckOnes : MethodName := ⟨RX5, "stuckOnes", "()I"⟩
abbrev cX5_arrived : ByteArray := prog_7_method_45_code
def yX5_arrived : MethodName := ⟨RX5, "arrived", "()I"⟩
abbrev cX5_inTheHall : ByteArray := prog_7_method_46_code
def yX5_inTheHall : MethodName := ⟨RX5, "inTheHall", "()I"⟩
abbrev cX5_shutCells : ByteArray := prog_7_method_47_code
def yX5_shutCells : MethodName := ⟨RX5, "shutCells", "()I"⟩
abbrev cX5_now : ByteArray := prog_7_method_48_code
def yX5_now : MethodName := ⟨RX5, "now", "(I)I"⟩
abbrev cX5_behind : ByteArray := prog_7_method_49_code
def yX5_behind : MethodName := ⟨RX5, "behind", "(II)I"⟩
abbrev cX5_ahead : ByteArray := prog_7_method_50_code
def yX5_ahead : MethodName := ⟨RX5, "ahead", "(III)I"⟩
abbrev cX5_strain : ByteArray := prog_7_method_51_code
def yX5_strain : MethodName := ⟨RX5, "strain", "(I)I"⟩
abbrev cX5_hoursTo : ByteArray := prog_7_method_52_code
def yX5_hoursTo : MethodName := ⟨RX5, "hoursTo", "(III)I"⟩
abbrev cX5_snaps : ByteArray := prog_7_method_53_code
def yX5_snaps : MethodName := ⟨RX5, "snaps", "()I"⟩
abbrev cX5_comes : ByteArray := prog_7_method_54_code
def yX5_comes : MethodName := ⟨RX5, "comes", "(II)I"⟩
abbrev cX5_stuck : ByteArray := prog_7_method_55_code
def yX5_stuck : MethodName := ⟨RX5, "stuck", "(II)I"⟩
abbrev cX5_isThought : ByteArray := prog_7_method_56_code
def yX5_isThought : MethodName := ⟨RX5, "isThought", "(I)Z"⟩
abbrev cX5_tight : ByteArray := prog_7_method_57_code
def yX5_tight : MethodName := ⟨RX5, "tight", "(II)I"⟩
abbrev cX5_measureFor : ByteArray := prog_7_method_58_code
def yX5_measureFor : MethodName := ⟨RX5, "measureFor", "(II)I"⟩
abbrev cX5_kindFor : ByteArray := prog_7_method_59_code
def yX5_kindFor : MethodName := ⟨RX5, "kindFor", "(II)I"⟩
abbrev cX5_sizeFor : ByteArray := prog_7_method_60_code
def yX5_sizeFor : MethodName := ⟨RX5, "sizeFor", "(II)I"⟩
abbrev cX5_holds : ByteArray := prog_7_method_61_code
def yX5_holds : MethodName := ⟨RX5, "holds", "(II)Z"⟩
abbrev cX5_send : ByteArray := prog_7_method_62_code
def yX5_send : MethodName := ⟨RX5, "send", "(I)I"⟩
abbrev cX5_lacks : ByteArray := prog_7_method_63_code
def yX5_lacks : MethodName := ⟨RX5, "lacks", "(IZ)I"⟩
abbrev cX5_isSo : ByteArray := prog_7_method_64_code
def yX5_isSo : MethodName := ⟨RX5, "isSo", "(II)Z"⟩
abbrev cX5_fits : ByteArray := prog_7_method_65_code
def yX5_fits : MethodName := ⟨RX5, "fits", "(II)I"⟩
abbrev cX5_kinds : ByteArray := prog_7_method_66_code
def yX5_kinds : MethodName := ⟨RX5, "kinds", "(II)I"⟩
abbrev cX5_drawn : ByteArray := prog_7_method_67_code
def yX5_drawn : MethodName := ⟨RX5, "drawn", "()I"⟩
abbrev cX5_party : ByteArray := prog_7_method_68_code
def yX5_party : MethodName := ⟨RX5, "party", "(I)I"⟩
abbrev cX5_odds : ByteArray := prog_7_method_69_code
def yX5_odds : MethodName := ⟨RX5, "odds", "(III)J"⟩
abbrev cX5_seed : ByteArray := prog_7_method_70_code
def yX5_seed : MethodName := ⟨RX5, "seed", "(I)I"⟩
abbrev cX5_feed : ByteArray := prog_7_method_71_code
def yX5_feed : MethodName := ⟨RX5, "feed", "(II)I"⟩
abbrev cX5_wipe : ByteArray := prog_7_method_72_code
def yX5_wipe : MethodName := ⟨RX5, "wipe", "()I"⟩
abbrev cX5_byteAt : ByteArray := prog_7_method_73_code
def yX5_byteAt : MethodName := ⟨RX5, "byteAt", "(I)I"⟩
abbrev cX5_token : ByteArray := prog_7_method_74_code
def yX5_token : MethodName := ⟨RX5, "token", "()V"⟩
abbrev cX5_isWord : ByteArray := prog_7_method_75_code
def yX5_isWord : MethodName := ⟨RX5, "isWord", "(Ljava/lang/String;)Z"⟩
abbrev cX5_must : ByteArray := prog_7_method_76_code
def yX5_must : MethodName := ⟨RX5, "must", "(Z)V"⟩
abbrev cX5_number : ByteArray := prog_7_method_77_code
def yX5_number : MethodName := ⟨RX5, "number", "(II)I"⟩
abbrev cX5_addItem : ByteArray := prog_7_method_78_code
def yX5_addItem : MethodName := ⟨RX5, "addItem", "(IIII)V"⟩
abbrev cX5_takesWord : ByteArray := prog_7_method_79_code
def yX5_takesWord : MethodName := ⟨RX5, "takesWord", "(Ljava/lang/String;)Z"⟩
abbrev cX5_readGuest : ByteArray := prog_7_method_80_code
def yX5_readGuest : MethodName := ⟨RX5, "readGuest", "(I)V"⟩
abbrev cX5_readItem : ByteArray := prog_7_method_81_code
def yX5_readItem : MethodName := ⟨RX5, "readItem", "()V"⟩
abbrev cX5_isToldSo : ByteArray := prog_7_method_82_code
def yX5_isToldSo : MethodName := ⟨RX5, "isToldSo", "(I)V"⟩
abbrev cX5_text : ByteArray := prog_7_method_83_code
def yX5_text : MethodName := ⟨RX5, "text", "()I"⟩
abbrev cX5_isSpot : ByteArray := prog_7_method_84_code
def yX5_isSpot : MethodName := ⟨RX5, "isSpot", "(I)Z"⟩
abbrev cX5_hold : ByteArray := prog_7_method_85_code
def yX5_hold : MethodName := ⟨RX5, "hold", "(II)I"⟩
abbrev cX5_as : ByteArray := prog_7_method_86_code
def yX5_as : MethodName := ⟨RX5, "as", "(II)I"⟩
abbrev cX5_isSheet : ByteArray := prog_7_method_87_code
def yX5_isSheet : MethodName := ⟨RX5, "isSheet", "(I)Z"⟩
abbrev cX5_cutTo : ByteArray := prog_7_method_88_code
def yX5_cutTo : MethodName := ⟨RX5, "cutTo", "(II)I"⟩
abbrev cX5_sheet : ByteArray := prog_7_method_89_code
def yX5_sheet : MethodName := ⟨RX5, "sheet", "(III)I"⟩
abbrev cX5_write : ByteArray := prog_7_method_90_code
def yX5_write : MethodName := ⟨RX5, "write", "(III)I"⟩
abbrev cX5_copy : ByteArray := prog_7_method_91_code
def yX5_copy : MethodName := ⟨RX5, "copy", "(IIIII)I"⟩
abbrev cX5_above : ByteArray := prog_7_method_92_code
def yX5_above : MethodName := ⟨RX5, "above", "(I)I"⟩
abbrev cX5_isUnder : ByteArray := prog_7_method_93_code
def yX5_isUnder : MethodName := ⟨RX5, "isUnder", "(II)Z"⟩
abbrev cX5_load : ByteArray := prog_7_method_94_code
def yX5_load : MethodName := ⟨RX5, "load", "(I)I"⟩
abbrev cX5_judge : ByteArray := prog_7_method_95_code
def yX5_judge : MethodName := ⟨RX5, "judge", "(I)I"⟩
abbrev cX5_image : ByteArray := prog_7_method_96_code
def yX5_image : MethodName := ⟨RX5, "image", "()I"⟩
abbrev cX5_undo : ByteArray := prog_7_method_97_code
def yX5_undo : MethodName := ⟨RX5, "undo", "()I"⟩
abbrev cX5_tear : ByteArray := prog_7_method_98_code
def yX5_tear : MethodName := ⟨RX5, "tear", "()I"⟩
abbrev cX5_count : ByteArray := prog_7_method_99_code
def yX5_count : MethodName := ⟨RX5, "count", "(I)I"⟩
abbrev cX5_status : ByteArray := prog_7_method_100_code
def yX5_status : MethodName := ⟨RX5, "status", "(I)I"⟩
def RJ6 : String := "java/lang/Integer"
abbrev cJ6_bitCount_0f7a4 : ByteArray := prog_8_method_49_code
def yJ6_bitCount_0f7a4 : MethodName := ⟨RJ6, "bitCount", "(I)I"⟩
def RJ9 : String := "java/lang/Math"
abbrev cJ9_max_7cf53 : ByteArray := prog_9_method_65_code
def yJ9_max_7cf53 : MethodName := ⟨RJ9, "max", "(II)I"⟩
abbrev cJ9_min_7cf53 : ByteArray := prog_9_method_69_code
def yJ9_min_7cf53 : MethodName := ⟨RJ9, "min", "(II)I"⟩
def RJ0 : String := "java/lang/String"
abbrev cJ0_length_8abf5 : ByteArray := prog_10_method_54_code
def yJ0_length_8abf5 : MethodName := ⟨RJ0, "length", "()I"⟩
abbrev cJ0_charAt_5068e : ByteArray := prog_10_method_56_code
def yJ0_charAt_5068e : MethodName := ⟨RJ0, "charAt", "(I)C"⟩
abbrev cJ0_coder_7d493 : ByteArray := prog_10_method_152_code
def yJ0_coder_7d493 : MethodName := ⟨RJ0, "coder", "()B"⟩
abbrev cJ0_isLatin1_aae02 : ByteArray := prog_10_method_154_code
def yJ0_isLatin1_aae02 : MethodName := ⟨RJ0, "isLatin1", "()Z"⟩
abbrev cJ0_checkIndex_df160 : ByteArray := prog_10_method_155_code
def yJ0_checkIndex_df160 : MethodName := ⟨RJ0, "checkIndex", "(II)V"⟩
def RJ1 : String := "java/lang/StringLatin1"
abbrev cJ1_charAt_3b067 : ByteArray := prog_11_method_2_code
def yJ1_charAt_3b067 : MethodName := ⟨RJ1, "charAt", "([BI)C"⟩
def RJ10 : String := "java/lang/System"
def RJ7 : String := "java/util/Arrays"
abbrev cJ7_fill_53178 : ByteArray := prog_14_method_103_code
def yJ7_fill_53178 : MethodName := ⟨RJ7, "fill", "([II)V"⟩
def RJ3 : String := "jdk/internal/util/Preconditions"
abbrev cJ3_checkIndex_8e157 : ByteArray := prog_15_method_11_code
def yJ3_checkIndex_8e157 : MethodName := ⟨RJ3, "checkIndex", "(IILjava/util/function/BiFunction;)I"⟩
abbrev vwCl : List vw_C := [(RX0, TX0, 15), (RX2, TX2, 3), (RX3, TX3, 6), (RX4, TX4, 7), (RX5, TX5, 20)]
def RL : String := "LacedHouseLaw"
abbrev cL_law : ByteArray := code
end
section
theorem dX0_init_0 : decode cX0_init 0 = .ok (.aload_n 0, 1) := by decide +kernel
theorem dX0_init_1 : decode cX0_init 1 = .ok (.invokespecial 1, 3) := by decide +kernel
theorem dX0_init_4 : decode cX0_init 4 = .ok (.aload_n 0, 1) := by decide +kernel
theorem dX0_init_5 : decode cX0_init 5 = .ok (.bipush 16, 2) := by decide +kernel
theorem dX0_init_7 : decode cX0_init 7 = .ok (.newarray .int, 2) := by decide +kernel
theorem dX0_init_9 : decode cX0_init 9 = .ok (.putfield 9, 3) := by decide +kernel
theorem dX0_init_12 : decode cX0_init 12 = .ok (.aload_n 0, 1) := by decide +kernel
theorem dX0_init_13 : decode cX0_init 13 = .ok (.bipush 6, 2) := by decide +kernel
theorem dX0_init_15 : decode cX0_init 15 = .ok (.newarray .int, 2) := by decide +kernel
theorem dX0_init_17 : decode cX0_init 17 = .ok (.putfield 13, 3) := by decide +kernel
theorem dX0_init_20 : decode cX0_init 20 = .ok (.aload_n 0, 1) := by decide +kernel
theorem dX0_init_21 : decode cX0_init 21 = .ok (.sipush 200, 3) := by decide +kernel
theorem dX0_init_24 : decode cX0_init 24 = .ok (.putfield 16, 3) := by decide +kernel
theorem dX0_init_27 : decode cX0_init 27 = .ok (.aload_n 0, 1) := by decide +kernel
theorem dX0_init_28 : decode cX0_init 28 = .ok (.iconst 0, 1) := by decide +kernel
theorem dX0_init_29 : decode cX0_init 29 = .ok (.putfield 20, 3) := by decide +kernel
theorem dX0_init_32 : decode cX0_init 32 = .ok (.aload_n 0, 1) := by decide +kernel
theorem dX0_init_33 : decode cX0_init 33 = .ok (.iconst 0, 1) := by decide +kernel
theorem dX0_init_34 : decode cX0_init 34 = .ok (.putfield 23, 3) := by decide +kernel
theorem dX0_init_37 : decode cX0_init 37 = .ok (.aload_n 0, 1) := by decide +kernel
theorem dX0_init_38 : decode cX0_init 38 = .ok (.iconst 0, 1) := by decide +kernel
theorem dX0_init_39 : decode cX0_init 39 = .ok (.putfield 26, 3) := by decide +kernel
theorem dX0_init_42 : decode cX0_init 42 = .ok (.aload_n 0, 1) := by decide +kernel
theorem dX0_init_43 : decode cX0_init 43 = .ok (.iconst 0, 1) := by decide +kernel
theorem dX0_init_44 : decode cX0_init 44 = .ok (.putfield 29, 3) := by decide +kernel
theorem dX0_init_47 : decode cX0_init 47 = .ok (.aload_n 0, 1) := by decide +kernel
theorem dX0_init_48 : decode cX0_init 48 = .ok (.bipush 8, 2) := by decide +kernel
theorem dX0_init_50 : decode cX0_init 50 = .ok (.newarray .int, 2) := by decide +kernel
theorem dX0_init_52 : decode cX0_init 52 = .ok (.putfield 32, 3) := by decide +kernel
theorem dX0_init_55 : decode cX0_init 55 = .ok (.aload_n 0, 1) := by decide +kernel
theorem dX0_init_56 : decode cX0_init 56 = .ok (.bipush 8, 2) := by decide +kernel
theorem dX0_init_58 : decode cX0_init 58 = .ok (.newarray .int, 2) := by decide +kernel
theorem dX0_init_60 : decode cX0_init 60 = .ok (.putfield 35, 3) := by decide +kernel
theorem dX0_init_63 : decode cX0_init 63 = .ok (.aload_n 0, 1) := by decide +kernel
theorem dX0_init_64 : decode cX0_init 64 = .ok (.bipush 8, 2) := by decide +kernel
theorem dX0_init_66 : decode cX0_init 66 = .ok (.newarray .int, 2) := by decide +kernel
theorem dX0_init_68 : decode cX0_init 68 = .ok (.putfield 38, 3) := by decide +kernel
theorem dX0_init_71 : decode cX0_init 71 = .ok (.aload_n 0, 1) := by decide +kernel
theorem dX0_init_72 : decode cX0_init 72 = .ok (.bipush 8, 2) := by decide +kernel
theorem dX0_init_74 : decode cX0_init 74 = .ok (.newarray .int, 2) := by decide +kernel
theorem dX0_init_76 : decode cX0_init 76 = .ok (.putfield 41, 3) := by decide +kernel
theorem dX0_init_79 : decode cX0_init 79 = .ok (.aload_n 0, 1) := by decide +kernel
theorem dX0_init_80 : decode cX0_init 80 = .ok (.bipush 8, 2) := by decide +kernel
theorem dX0_init_82 : decode cX0_init 82 = .ok (.newarray .int, 2) := by decide +kernel
theorem dX0_init_84 : decode cX0_init 84 = .ok (.putfield 44, 3) := by decide +kernel
theorem dX0_init_87 : decode cX0_init 87 = .ok (.aload_n 0, 1) := by decide +kernel
theorem dX0_init_88 : decode cX0_init 88 = .ok (.bipush 8, 2) := by decide +kernel
theorem dX0_init_90 : decode cX0_init 90 = .ok (.newarray .int, 2) := by decide +kernel
theorem dX0_init_92 : decode cX0_init 92 = .ok (.putfield 47, 3) := by decide +kernel
theorem dX0_init_95 : decode cX0_init 95 = .ok (.aload_n 0, 1) := by decide +kernel
theorem dX0_init_96 : decode cX0_init 96 = .ok (.iconst 1, 1) := by decide +kernel
theorem dX0_init_97 : decode cX0_init 97 = .ok (.putfield 50, 3) := by decide +kernel
theorem dX0_init_100 : decode cX0_init 100 = .ok (.aload_n 0, 1) := by decide +kernel
theorem dX0_init_101 : decode cX0_init 101 = .ok (.bipush 10, 2) := by decide +kernel
theorem dX0_init_103 : decode cX0_init 103 = .ok (.newarray .int, 2) := by decide +kernel
theorem dX0_init_105 : decode cX0_init 105 = .ok (.putfield 53, 3) := by decide +kernel
theorem dX0_init_108 : decode cX0_init 108 = .ok (.aload_n 0, 1) := by decide +kernel
theorem dX0_init_109 : decode cX0_init 109 = .ok (.getfield 9, 3) := by decide +kernel
theorem dX0_init_112 : decode cX0_init 112 = .ok (.bipush 20, 2) := by decide +kernel
theorem dX0_init_114 : decode cX0_init 114 = .ok (.invokestatic 56, 3) := by decide +kernel
theorem dX0_init_117 : decode cX0_init 117 = .ok (.aload_n 0, 1) := by decide +kernel
theorem dX0_init_118 : decode cX0_init 118 = .ok (.getfield 13, 3) := by decide +kernel
theorem dX0_init_121 : decode cX0_init 121 = .ok (.bipush 26, 2) := by decide +kernel
theorem dX0_init_123 : decode cX0_init 123 = .ok (.invokestatic 56, 3) := by decide +kernel
theorem dX0_init_126 : decode cX0_init 126 = .ok (.aload_n 0, 1) := by decide +kernel
theorem dX0_init_127 : decode cX0_init 127 = .ok (.getfield 53, 3) := by decide +kernel
theorem dX0_init_130 : decode cX0_init 130 = .ok (.iconst (-1), 1) := by decide +kernel
theorem dX0_init_131 : decode cX0_init 131 = .ok (.invokestatic 56, 3) := by decide +kernel
theorem dX0_init_134 : decode cX0_init 134 = .ok (.return_, 1) := by decide +kernel
theorem dX0_become_0 : decode cX0_become 0 = .ok (.aload_n 1, 1) := by decide +kernel
theorem dX0_become_1 : decode cX0_become 1 = .ok (.getfield 9, 3) := by decide +kernel
theorem dX0_become_4 : decode cX0_become 4 = .ok (.iconst 0, 1) := by decide +kernel
theorem dX0_become_5 : decode cX0_become 5 = .ok (.aload_n 0, 1) := by decide +kernel
theorem dX0_become_6 : decode cX0_become 6 = .ok (.getfield 9, 3) := by decide +kernel
theorem dX0_become_9 : decode cX0_become 9 = .ok (.iconst 0, 1) := by decide +kernel
theorem dX0_become_10 : decode cX0_become 10 = .ok (.bipush 16, 2) := by decide +kernel
theorem dX0_become_12 : decode cX0_become 12 = .ok (.invokestatic 62, 3) := by decide +kernel
theorem dX0_become_15 : decode cX0_become 15 = .ok (.aload_n 1, 1) := by decide +kernel
theorem dX0_become_16 : decode cX0_become 16 = .ok (.getfield 13, 3) := by decide +kernel
theorem dX0_become_19 : decode cX0_become 19 = .ok (.iconst 0, 1) := by decide +kernel
theorem dX0_become_20 : decode cX0_become 20 = .ok (.aload_n 0, 1) := by decide +kernel
theorem dX0_become_21 : decode cX0_become 21 = .ok (.getfield 13, 3) := by decide +kernel
theorem dX0_become_24 : decode cX0_become 24 = .ok (.iconst 0, 1) := by decide +kernel
theorem dX0_become_25 : decode cX0_become 25 = .ok (.bipush 6, 2) := by decide +kernel
theorem dX0_become_27 : decode cX0_become 27 = .ok (.invokestatic 62, 3) := by decide +kernel
theorem dX0_become_30 : decode cX0_become 30 = .ok (.aload_n 0, 1) := by decide +kernel
theorem dX0_become_31 : decode cX0_become 31 = .ok (.aload_n 1, 1) := by decide +kernel
theorem dX0_become_32 : decode cX0_become 32 = .ok (.getfield 16, 3) := by decide +kernel
theorem dX0_become_35 : decode cX0_become 35 = .ok (.putfield 16, 3) := by decide +kernel
theorem dX0_become_38 : decode cX0_become 38 = .ok (.aload_n 0, 1) := by decide +kernel
theorem dX0_become_39 : decode cX0_become 39 = .ok (.aload_n 1, 1) := by decide +kernel
theorem dX0_become_40 : decode cX0_become 40 = .ok (.getfield 20, 3) := by decide +kernel
theorem dX0_become_43 : decode cX0_become 43 = .ok (.putfield 20, 3) := by decide +kernel
theorem dX0_become_46 : decode cX0_become 46 = .ok (.aload_n 0, 1) := by decide +kernel
theorem dX0_become_47 : decode cX0_become 47 = .ok (.aload_n 1, 1) := by decide +kernel
theorem dX0_become_48 : decode cX0_become 48 = .ok (.getfield 23, 3) := by decide +kernel
theorem dX0_become_51 : decode cX0_become 51 = .ok (.putfield 23, 3) := by decide +kernel
theorem dX0_become_54 : decode cX0_become 54 = .ok (.aload_n 0, 1) := by decide +kernel
theorem dX0_become_55 : decode cX0_become 55 = .ok (.aload_n 1, 1) := by decide +kernel
theorem dX0_become_56 : decode cX0_become 56 = .ok (.getfield 26, 3) := by decide +kernel
theorem dX0_become_59 : decode cX0_become 59 = .ok (.putfield 26, 3) := by decide +kernel
theorem dX0_become_62 : decode cX0_become 62 = .ok (.aload_n 0, 1) := by decide +kernel
theorem dX0_become_63 : decode cX0_become 63 = .ok (.aload_n 1, 1) := by decide +kernel
theorem dX0_become_64 : decode cX0_become 64 = .ok (.getfield 29, 3) := by decide +kernel
theorem dX0_become_67 : decode cX0_become 67 = .ok (.putfield 29, 3) := by decide +kernel
theorem dX0_become_70 : decode cX0_become 70 = .ok (.aload_n 1, 1) := by decide +kernel
theorem dX0_become_71 : decode cX0_become 71 = .ok (.getfield 32, 3) := by decide +kernel
theorem dX0_become_74 : decode cX0_become 74 = .ok (.iconst 0, 1) := by decide +kernel
theorem dX0_become_75 : decode cX0_become 75 = .ok (.aload_n 0, 1) := by decide +kernel
theorem dX0_become_76 : decode cX0_become 76 = .ok (.getfield 32, 3) := by decide +kernel
theorem dX0_become_79 : decode cX0_become 79 = .ok (.iconst 0, 1) := by decide +kernel
theorem dX0_become_80 : decode cX0_become 80 = .ok (.bipush 8, 2) := by decide +kernel
theorem dX0_become_82 : decode cX0_become 82 = .ok (.invokestatic 62, 3) := by decide +kernel
theorem dX0_become_85 : decode cX0_become 85 = .ok (.aload_n 1, 1) := by decide +kernel
theorem dX0_become_86 : decode cX0_become 86 = .ok (.getfield 35, 3) := by decide +kernel
theorem dX0_become_89 : decode cX0_become 89 = .ok (.iconst 0, 1) := by decide +kernel
theorem dX0_become_90 : decode cX0_become 90 = .ok (.aload_n 0, 1) := by decide +kernel
theorem dX0_become_91 : decode cX0_become 91 = .ok (.getfield 35, 3) := by decide +kernel
theorem dX0_become_94 : decode cX0_become 94 = .ok (.iconst 0, 1) := by decide +kernel
theorem dX0_become_95 : decode cX0_become 95 = .ok (.bipush 8, 2) := by decide +kernel
theorem dX0_become_97 : decode cX0_become 97 = .ok (.invokestatic 62, 3) := by decide +kernel
theorem dX0_become_100 : decode cX0_become 100 = .ok (.aload_n 1, 1) := by decide +kernel
theorem dX0_become_101 : decode cX0_become 101 = .ok (.getfield 38, 3) := by decide +kernel
theorem dX0_become_104 : decode cX0_become 104 = .ok (.iconst 0, 1) := by decide +kernel
theorem dX0_become_105 : decode cX0_become 105 = .ok (.aload_n 0, 1) := by decide +kernel
theorem dX0_become_106 : decode cX0_become 106 = .ok (.getfield 38, 3) := by decide +kernel
theorem dX0_become_109 : decode cX0_become 109 = .ok (.iconst 0, 1) := by decide +kernel
theorem dX0_become_110 : decode cX0_become 110 = .ok (.bipush 8, 2) := by decide +kernel
theorem dX0_become_112 : decode cX0_become 112 = .ok (.invokestatic 62, 3) := by decide +kernel
theorem dX0_become_115 : decode cX0_become 115 = .ok (.aload_n 1, 1) := by decide +kernel
theorem dX0_become_116 : decode cX0_become 116 = .ok (.getfield 41, 3) := by decide +kernel
theorem dX0_become_119 : decode cX0_become 119 = .ok (.iconst 0, 1) := by decide +kernel
theorem dX0_become_120 : decode cX0_become 120 = .ok (.aload_n 0, 1) := by decide +kernel
theorem dX0_become_121 : decode cX0_become 121 = .ok (.getfield 41, 3) := by decide +kernel
theorem dX0_become_124 : decode cX0_become 124 = .ok (.iconst 0, 1) := by decide +kernel
theorem dX0_become_125 : decode cX0_become 125 = .ok (.bipush 8, 2) := by decide +kernel
theorem dX0_become_127 : decode cX0_become 127 = .ok (.invokestatic 62, 3) := by decide +kernel
theorem dX0_become_130 : decode cX0_become 130 = .ok (.aload_n 1, 1) := by decide +kernel
theorem dX0_become_131 : decode cX0_become 131 = .ok (.getfield 44, 3) := by decide +kernel
theorem dX0_become_134 : decode cX0_become 134 = .ok (.iconst 0, 1) := by decide +kernel
theorem dX0_become_135 : decode cX0_become 135 = .ok (.aload_n 0, 1) := by decide +kernel
theorem dX0_become_136 : decode cX0_become 136 = .ok (.getfield 44, 3) := by decide +kernel
theorem dX0_become_139 : decode cX0_become 139 = .ok (.iconst 0, 1) := by decide +kernel
theorem dX0_become_140 : decode cX0_become 140 = .ok (.bipush 8, 2) := by decide +kernel
theorem dX0_become_142 : decode cX0_become 142 = .ok (.invokestatic 62, 3) := by decide +kernel
theorem dX0_become_145 : decode cX0_become 145 = .ok (.aload_n 1, 1) := by decide +kernel
theorem dX0_become_146 : decode cX0_become 146 = .ok (.getfield 47, 3) := by decide +kernel
theorem dX0_become_149 : decode cX0_become 149 = .ok (.iconst 0, 1) := by decide +kernel
theorem dX0_become_150 : decode cX0_become 150 = .ok (.aload_n 0, 1) := by decide +kernel
theorem dX0_become_151 : decode cX0_become 151 = .ok (.getfield 47, 3) := by decide +kernel
theorem dX0_become_154 : decode cX0_become 154 = .ok (.iconst 0, 1) := by decide +kernel
theorem dX0_become_155 : decode cX0_become 155 = .ok (.bipush 8, 2) := by decide +kernel
theorem dX0_become_157 : decode cX0_become 157 = .ok (.invokestatic 62, 3) := by decide +kernel
theorem dX0_become_160 : decode cX0_become 160 = .ok (.aload_n 0, 1) := by decide +kernel
theorem dX0_become_161 : decode cX0_become 161 = .ok (.aload_n 1, 1) := by decide +kernel
theorem dX0_become_162 : decode cX0_become 162 = .ok (.getfield 50, 3) := by decide +kernel
theorem dX0_become_165 : decode cX0_become 165 = .ok (.putfield 50, 3) := by decide +kernel
theorem dX0_become_168 : decode cX0_become 168 = .ok (.aload_n 1, 1) := by decide +kernel
theorem dX0_become_169 : decode cX0_become 169 = .ok (.getfield 53, 3) := by decide +kernel
theorem dX0_become_172 : decode cX0_become 172 = .ok (.iconst 0, 1) := by decide +kernel
theorem dX0_become_173 : decode cX0_become 173 = .ok (.aload_n 0, 1) := by decide +kernel
theorem dX0_become_174 : decode cX0_become 174 = .ok (.getfield 53, 3) := by decide +kernel
theorem dX0_become_177 : decode cX0_become 177 = .ok (.iconst 0, 1) := by decide +kernel
theorem dX0_become_178 : decode cX0_become 178 = .ok (.bipush 10, 2) := by decide +kernel
theorem dX0_become_180 : decode cX0_become 180 = .ok (.invokestatic 62, 3) := by decide +kernel
theorem dX0_become_183 : decode cX0_become 183 = .ok (.return_, 1) := by decide +kernel
theorem dX0_isFull_0 : decode cX0_isFull 0 = .ok (.aload_n 0, 1) := by decide +kernel
theorem dX0_isFull_1 : decode cX0_isFull 1 = .ok (.getfield 29, 3) := by decide +kernel
theorem dX0_isFull_4 : decode cX0_isFull 4 = .ok (.bipush 8, 2) := by decide +kernel
theorem dX0_isFull_6 : decode cX0_isFull 6 = .ok (.if_icmp .lt 7, 3) := by decide +kernel
theorem dX0_isFull_9 : decode cX0_isFull 9 = .ok (.iconst 1, 1) := by decide +kernel
theorem dX0_isFull_10 : decode cX0_isFull 10 = .ok (.goto 4, 3) := by decide +kernel
theorem dX0_isFull_13 : decode cX0_isFull 13 = .ok (.iconst 0, 1) := by decide +kernel
theorem dX0_isFull_14 : decode cX0_isFull 14 = .ok (.ireturn, 1) := by decide +kernel
theorem dX0_add_0 : decode cX0_add 0 = .ok (.aload_n 0, 1) := by decide +kernel
theorem dX0_add_1 : decode cX0_add 1 = .ok (.invokevirtual 68, 3) := by decide +kernel
theorem dX0_add_4 : decode cX0_add 4 = .ok (.ifCond .eq 5, 3) := by decide +kernel
theorem dX0_add_7 : decode cX0_add 7 = .ok (.iconst (-1), 1) := by decide +kernel
theorem dX0_add_8 : decode cX0_add 8 = .ok (.ireturn, 1) := by decide +kernel
theorem dX0_add_9 : decode cX0_add 9 = .ok (.aload_n 0, 1) := by decide +kernel
theorem dX0_add_10 : decode cX0_add 10 = .ok (.getfield 32, 3) := by decide +kernel
theorem dX0_add_13 : decode cX0_add 13 = .ok (.aload_n 0, 1) := by decide +kernel
theorem dX0_add_14 : decode cX0_add 14 = .ok (.getfield 29, 3) := by decide +kernel
theorem dX0_add_17 : decode cX0_add 17 = .ok (.iload_n 1, 1) := by decide +kernel
theorem dX0_add_18 : decode cX0_add 18 = .ok (.iastore, 1) := by decide +kernel
theorem dX0_add_19 : decode cX0_add 19 = .ok (.aload_n 0, 1) := by decide +kernel
theorem dX0_add_20 : decode cX0_add 20 = .ok (.getfield 35, 3) := by decide +kernel
theorem dX0_add_23 : decode cX0_add 23 = .ok (.aload_n 0, 1) := by decide +kernel
theorem dX0_add_24 : decode cX0_add 24 = .ok (.getfield 29, 3) := by decide +kernel
theorem dX0_add_27 : decode cX0_add 27 = .ok (.iload_n 2, 1) := by decide +kernel
theorem dX0_add_28 : decode cX0_add 28 = .ok (.iastore, 1) := by decide +kernel
theorem dX0_add_29 : decode cX0_add 29 = .ok (.aload_n 0, 1) := by decide +kernel
theorem dX0_add_30 : decode cX0_add 30 = .ok (.getfield 38, 3) := by decide +kernel
theorem dX0_add_33 : decode cX0_add 33 = .ok (.aload_n 0, 1) := by decide +kernel
theorem dX0_add_34 : decode cX0_add 34 = .ok (.getfield 29, 3) := by decide +kernel
theorem dX0_add_37 : decode cX0_add 37 = .ok (.bipush 10, 2) := by decide +kernel
theorem dX0_add_39 : decode cX0_add 39 = .ok (.iastore, 1) := by decide +kernel
theorem dX0_add_40 : decode cX0_add 40 = .ok (.aload_n 0, 1) := by decide +kernel
theorem dX0_add_41 : decode cX0_add 41 = .ok (.getfield 41, 3) := by decide +kernel
theorem dX0_add_44 : decode cX0_add 44 = .ok (.aload_n 0, 1) := by decide +kernel
theorem dX0_add_45 : decode cX0_add 45 = .ok (.getfield 29, 3) := by decide +kernel
theorem dX0_add_48 : decode cX0_add 48 = .ok (.iload_n 2, 1) := by decide +kernel
theorem dX0_add_49 : decode cX0_add 49 = .ok (.iastore, 1) := by decide +kernel
theorem dX0_add_50 : decode cX0_add 50 = .ok (.aload_n 0, 1) := by decide +kernel
theorem dX0_add_51 : decode cX0_add 51 = .ok (.getfield 44, 3) := by decide +kernel
theorem dX0_add_54 : decode cX0_add 54 = .ok (.aload_n 0, 1) := by decide +kernel
theorem dX0_add_55 : decode cX0_add 55 = .ok (.getfield 29, 3) := by decide +kernel
theorem dX0_add_58 : decode cX0_add 58 = .ok (.iconst 0, 1) := by decide +kernel
theorem dX0_add_59 : decode cX0_add 59 = .ok (.iastore, 1) := by decide +kernel
theorem dX0_add_60 : decode cX0_add 60 = .ok (.aload_n 0, 1) := by decide +kernel
theorem dX0_add_61 : decode cX0_add 61 = .ok (.getfield 47, 3) := by decide +kernel
theorem dX0_add_64 : decode cX0_add 64 = .ok (.aload_n 0, 1) := by decide +kernel
theorem dX0_add_65 : decode cX0_add 65 = .ok (.getfield 29, 3) := by decide +kernel
theorem dX0_add_68 : decode cX0_add 68 = .ok (.iconst 0, 1) := by decide +kernel
theorem dX0_add_69 : decode cX0_add 69 = .ok (.iastore, 1) := by decide +kernel
theorem dX0_add_70 : decode cX0_add 70 = .ok (.aload_n 0, 1) := by decide +kernel
theorem dX0_add_71 : decode cX0_add 71 = .ok (.dup, 1) := by decide +kernel
theorem dX0_add_72 : decode cX0_add 72 = .ok (.getfield 29, 3) := by decide +kernel
theorem dX0_add_75 : decode cX0_add 75 = .ok (.iconst 1, 1) := by decide +kernel
theorem dX0_add_76 : decode cX0_add 76 = .ok (.iadd, 1) := by decide +kernel
theorem dX0_add_77 : decode cX0_add 77 = .ok (.putfield 29, 3) := by decide +kernel
theorem dX0_add_80 : decode cX0_add 80 = .ok (.aload_n 0, 1) := by decide +kernel
theorem dX0_add_81 : decode cX0_add 81 = .ok (.getfield 29, 3) := by decide +kernel
theorem dX0_add_84 : decode cX0_add 84 = .ok (.iconst 1, 1) := by decide +kernel
theorem dX0_add_85 : decode cX0_add 85 = .ok (.isub, 1) := by decide +kernel
theorem dX0_add_86 : decode cX0_add 86 = .ok (.ireturn, 1) := by decide +kernel
theorem dX0_sendHome_0 : decode cX0_sendHome 0 = .ok (.iconst 0, 1) := by decide +kernel
theorem dX0_sendHome_1 : decode cX0_sendHome 1 = .ok (.istore_n 2, 1) := by decide +kernel
theorem dX0_sendHome_2 : decode cX0_sendHome 2 = .ok (.iload_n 2, 1) := by decide +kernel
theorem dX0_sendHome_3 : decode cX0_sendHome 3 = .ok (.aload_n 0, 1) := by decide +kernel
theorem dX0_sendHome_4 : decode cX0_sendHome 4 = .ok (.getfield 29, 3) := by decide +kernel
theorem dX0_sendHome_7 : decode cX0_sendHome 7 = .ok (.if_icmp .ge 25, 3) := by decide +kernel
theorem dX0_sendHome_10 : decode cX0_sendHome 10 = .ok (.iload_n 1, 1) := by decide +kernel
theorem dX0_sendHome_11 : decode cX0_sendHome 11 = .ok (.iload_n 2, 1) := by decide +kernel
theorem dX0_sendHome_12 : decode cX0_sendHome 12 = .ok (.ishr, 1) := by decide +kernel
theorem dX0_sendHome_13 : decode cX0_sendHome 13 = .ok (.iconst 1, 1) := by decide +kernel
theorem dX0_sendHome_14 : decode cX0_sendHome 14 = .ok (.iand, 1) := by decide +kernel
theorem dX0_sendHome_15 : decode cX0_sendHome 15 = .ok (.iconst 1, 1) := by decide +kernel
theorem dX0_sendHome_16 : decode cX0_sendHome 16 = .ok (.if_icmp .ne 10, 3) := by decide +kernel
theorem dX0_sendHome_19 : decode cX0_sendHome 19 = .ok (.aload_n 0, 1) := by decide +kernel
theorem dX0_sendHome_20 : decode cX0_sendHome 20 = .ok (.getfield 47, 3) := by decide +kernel
theorem dX0_sendHome_23 : decode cX0_sendHome 23 = .ok (.iload_n 2, 1) := by decide +kernel
theorem dX0_sendHome_24 : decode cX0_sendHome 24 = .ok (.iconst 1, 1) := by decide +kernel
theorem dX0_sendHome_25 : decode cX0_sendHome 25 = .ok (.iastore, 1) := by decide +kernel
theorem dX0_sendHome_26 : decode cX0_sendHome 26 = .ok (.iinc 2 1, 3) := by decide +kernel
theorem dX0_sendHome_29 : decode cX0_sendHome 29 = .ok (.goto (-27), 3) := by decide +kernel
theorem dX0_sendHome_32 : decode cX0_sendHome 32 = .ok (.return_, 1) := by decide +kernel
theorem dX0_trait_0 : decode cX0_trait 0 = .ok (.iload_n 1, 1) := by decide +kernel
theorem dX0_trait_1 : decode cX0_trait 1 = .ok (.tableswitch 60 0 4 #[35, 40, 45, 50, 55], 35) := by decide +kernel
theorem dX0_trait_36 : decode cX0_trait 36 = .ok (.aload_n 0, 1) := by decide +kernel
theorem dX0_trait_37 : decode cX0_trait 37 = .ok (.getfield 32, 3) := by decide +kernel
theorem dX0_trait_40 : decode cX0_trait 40 = .ok (.areturn, 1) := by decide +kernel
theorem dX0_trait_41 : decode cX0_trait 41 = .ok (.aload_n 0, 1) := by decide +kernel
theorem dX0_trait_42 : decode cX0_trait 42 = .ok (.getfield 35, 3) := by decide +kernel
theorem dX0_trait_45 : decode cX0_trait 45 = .ok (.areturn, 1) := by decide +kernel
theorem dX0_trait_46 : decode cX0_trait 46 = .ok (.aload_n 0, 1) := by decide +kernel
theorem dX0_trait_47 : decode cX0_trait 47 = .ok (.getfield 38, 3) := by decide +kernel
theorem dX0_trait_50 : decode cX0_trait 50 = .ok (.areturn, 1) := by decide +kernel
theorem dX0_trait_51 : decode cX0_trait 51 = .ok (.aload_n 0, 1) := by decide +kernel
theorem dX0_trait_52 : decode cX0_trait 52 = .ok (.getfield 41, 3) := by decide +kernel
theorem dX0_trait_55 : decode cX0_trait 55 = .ok (.areturn, 1) := by decide +kernel
theorem dX0_trait_56 : decode cX0_trait 56 = .ok (.aload_n 0, 1) := by decide +kernel
theorem dX0_trait_57 : decode cX0_trait 57 = .ok (.getfield 44, 3) := by decide +kernel
theorem dX0_trait_60 : decode cX0_trait 60 = .ok (.areturn, 1) := by decide +kernel
theorem dX0_trait_61 : decode cX0_trait 61 = .ok (.aload_n 0, 1) := by decide +kernel
theorem dX0_trait_62 : decode cX0_trait 62 = .ok (.getfield 47, 3) := by decide +kernel
theorem dX0_trait_65 : decode cX0_trait 65 = .ok (.areturn, 1) := by decide +kernel
theorem dX0_needs_0 : decode cX0_needs 0 = .ok (.aload_n 0, 1) := by decide +kernel
theorem dX0_needs_1 : decode cX0_needs 1 = .ok (.getfield 32, 3) := by decide +kernel
theorem dX0_needs_4 : decode cX0_needs 4 = .ok (.iload_n 1, 1) := by decide +kernel
theorem dX0_needs_5 : decode cX0_needs 5 = .ok (.iaload, 1) := by decide +kernel
theorem dX0_needs_6 : decode cX0_needs 6 = .ok (.aload_n 0, 1) := by decide +kernel
theorem dX0_needs_7 : decode cX0_needs 7 = .ok (.getfield 38, 3) := by decide +kernel
theorem dX0_needs_10 : decode cX0_needs 10 = .ok (.iload_n 1, 1) := by decide +kernel
theorem dX0_needs_11 : decode cX0_needs 11 = .ok (.iaload, 1) := by decide +kernel
theorem dX0_needs_12 : decode cX0_needs 12 = .ok (.aload_n 0, 1) := by decide +kernel
theorem dX0_needs_13 : decode cX0_needs 13 = .ok (.getfield 44, 3) := by decide +kernel
theorem dX0_needs_16 : decode cX0_needs 16 = .ok (.iload_n 1, 1) := by decide +kernel
theorem dX0_needs_17 : decode cX0_needs 17 = .ok (.iaload, 1) := by decide +kernel
theorem dX0_needs_18 : decode cX0_needs 18 = .ok (.aload_n 0, 1) := by decide +kernel
theorem dX0_needs_19 : decode cX0_needs 19 = .ok (.getfield 26, 3) := by decide +kernel
theorem dX0_needs_22 : decode cX0_needs 22 = .ok (.invokestatic 72, 3) := by decide +kernel
theorem dX0_needs_25 : decode cX0_needs 25 = .ok (.ireturn, 1) := by decide +kernel
theorem dX0_placeNow_0 : decode cX0_placeNow 0 = .ok (.aload_n 0, 1) := by decide +kernel
theorem dX0_placeNow_1 : decode cX0_placeNow 1 = .ok (.getfield 26, 3) := by decide +kernel
theorem dX0_placeNow_4 : decode cX0_placeNow 4 = .ok (.bipush 6, 2) := by decide +kernel
theorem dX0_placeNow_6 : decode cX0_placeNow 6 = .ok (.irem, 1) := by decide +kernel
theorem dX0_placeNow_7 : decode cX0_placeNow 7 = .ok (.ireturn, 1) := by decide +kernel
theorem dX0_measureNow_0 : decode cX0_measureNow 0 = .ok (.aload_n 0, 1) := by decide +kernel
theorem dX0_measureNow_1 : decode cX0_measureNow 1 = .ok (.getfield 23, 3) := by decide +kernel
theorem dX0_measureNow_4 : decode cX0_measureNow 4 = .ok (.iconst 1, 1) := by decide +kernel
theorem dX0_measureNow_5 : decode cX0_measureNow 5 = .ok (.if_icmp .ne 8, 3) := by decide +kernel
theorem dX0_measureNow_8 : decode cX0_measureNow 8 = .ok (.bipush 36, 2) := by decide +kernel
theorem dX0_measureNow_10 : decode cX0_measureNow 10 = .ok (.goto 12, 3) := by decide +kernel
theorem dX0_measureNow_13 : decode cX0_measureNow 13 = .ok (.aload_n 0, 1) := by decide +kernel
theorem dX0_measureNow_14 : decode cX0_measureNow 14 = .ok (.getfield 13, 3) := by decide +kernel
theorem dX0_measureNow_17 : decode cX0_measureNow 17 = .ok (.aload_n 0, 1) := by decide +kernel
theorem dX0_measureNow_18 : decode cX0_measureNow 18 = .ok (.invokevirtual 78, 3) := by decide +kernel
theorem dX0_measureNow_21 : decode cX0_measureNow 21 = .ok (.iaload, 1) := by decide +kernel
theorem dX0_measureNow_22 : decode cX0_measureNow 22 = .ok (.ireturn, 1) := by decide +kernel
theorem dX0_width_0 : decode cX0_width 0 = .ok (.iconst 0, 1) := by decide +kernel
theorem dX0_width_1 : decode cX0_width 1 = .ok (.aload_n 0, 1) := by decide +kernel
theorem dX0_width_2 : decode cX0_width 2 = .ok (.getfield 9, 3) := by decide +kernel
theorem dX0_width_5 : decode cX0_width 5 = .ok (.iload_n 1, 1) := by decide +kernel
theorem dX0_width_6 : decode cX0_width 6 = .ok (.iaload, 1) := by decide +kernel
theorem dX0_width_7 : decode cX0_width 7 = .ok (.iload_n 2, 1) := by decide +kernel
theorem dX0_width_8 : decode cX0_width 8 = .ok (.iadd, 1) := by decide +kernel
theorem dX0_width_9 : decode cX0_width 9 = .ok (.bipush 26, 2) := by decide +kernel
theorem dX0_width_11 : decode cX0_width 11 = .ok (.isub, 1) := by decide +kernel
theorem dX0_width_12 : decode cX0_width 12 = .ok (.invokestatic 82, 3) := by decide +kernel
theorem dX0_width_15 : decode cX0_width 15 = .ok (.ireturn, 1) := by decide +kernel
theorem dX0_reachable_0 : decode cX0_reachable 0 = .ok (.aload_n 0, 1) := by decide +kernel
theorem dX0_reachable_1 : decode cX0_reachable 1 = .ok (.iload_n 1, 1) := by decide +kernel
theorem dX0_reachable_2 : decode cX0_reachable 2 = .ok (.invokevirtual 88, 3) := by decide +kernel
theorem dX0_reachable_5 : decode cX0_reachable 5 = .ok (.istore_n 3, 1) := by decide +kernel
theorem dX0_reachable_6 : decode cX0_reachable 6 = .ok (.iconst 1, 1) := by decide +kernel
theorem dX0_reachable_7 : decode cX0_reachable 7 = .ok (.aload_n 0, 1) := by decide +kernel
theorem dX0_reachable_8 : decode cX0_reachable 8 = .ok (.getfield 35, 3) := by decide +kernel
theorem dX0_reachable_11 : decode cX0_reachable 11 = .ok (.iload_n 1, 1) := by decide +kernel
theorem dX0_reachable_12 : decode cX0_reachable 12 = .ok (.iaload, 1) := by decide +kernel
theorem dX0_reachable_13 : decode cX0_reachable 13 = .ok (.ishl, 1) := by decide +kernel
theorem dX0_reachable_14 : decode cX0_reachable 14 = .ok (.istore 4, 2) := by decide +kernel
theorem dX0_reachable_16 : decode cX0_reachable 16 = .ok (.aload_n 0, 1) := by decide +kernel
theorem dX0_reachable_17 : decode cX0_reachable 17 = .ok (.getfield 35, 3) := by decide +kernel
theorem dX0_reachable_20 : decode cX0_reachable 20 = .ok (.iload_n 1, 1) := by decide +kernel
theorem dX0_reachable_21 : decode cX0_reachable 21 = .ok (.iaload, 1) := by decide +kernel
theorem dX0_reachable_22 : decode cX0_reachable 22 = .ok (.iconst 1, 1) := by decide +kernel
theorem dX0_reachable_23 : decode cX0_reachable 23 = .ok (.iadd, 1) := by decide +kernel
theorem dX0_reachable_24 : decode cX0_reachable 24 = .ok (.istore 5, 2) := by decide +kernel
theorem dX0_reachable_26 : decode cX0_reachable 26 = .ok (.iload 5, 2) := by decide +kernel
theorem dX0_reachable_28 : decode cX0_reachable 28 = .ok (.bipush 16, 2) := by decide +kernel
theorem dX0_reachable_30 : decode cX0_reachable 30 = .ok (.if_icmp .ge 29, 3) := by decide +kernel
theorem dX0_reachable_33 : decode cX0_reachable 33 = .ok (.aload_n 0, 1) := by decide +kernel
theorem dX0_reachable_34 : decode cX0_reachable 34 = .ok (.iload 5, 2) := by decide +kernel
theorem dX0_reachable_36 : decode cX0_reachable 36 = .ok (.iload_n 2, 1) := by decide +kernel
theorem dX0_reachable_37 : decode cX0_reachable 37 = .ok (.invokevirtual 91, 3) := by decide +kernel
theorem dX0_reachable_40 : decode cX0_reachable 40 = .ok (.iload_n 3, 1) := by decide +kernel
theorem dX0_reachable_41 : decode cX0_reachable 41 = .ok (.if_icmp .lt 18, 3) := by decide +kernel
theorem dX0_reachable_44 : decode cX0_reachable 44 = .ok (.iload 4, 2) := by decide +kernel
theorem dX0_reachable_46 : decode cX0_reachable 46 = .ok (.iconst 1, 1) := by decide +kernel
theorem dX0_reachable_47 : decode cX0_reachable 47 = .ok (.iload 5, 2) := by decide +kernel
theorem dX0_reachable_49 : decode cX0_reachable 49 = .ok (.ishl, 1) := by decide +kernel
theorem dX0_reachable_50 : decode cX0_reachable 50 = .ok (.ior, 1) := by decide +kernel
theorem dX0_reachable_51 : decode cX0_reachable 51 = .ok (.istore 4, 2) := by decide +kernel
theorem dX0_reachable_53 : decode cX0_reachable 53 = .ok (.iinc 5 1, 3) := by decide +kernel
theorem dX0_reachable_56 : decode cX0_reachable 56 = .ok (.goto (-30), 3) := by decide +kernel
theorem dX0_reachable_59 : decode cX0_reachable 59 = .ok (.aload_n 0, 1) := by decide +kernel
theorem dX0_reachable_60 : decode cX0_reachable 60 = .ok (.getfield 35, 3) := by decide +kernel
theorem dX0_reachable_63 : decode cX0_reachable 63 = .ok (.iload_n 1, 1) := by decide +kernel
theorem dX0_reachable_64 : decode cX0_reachable 64 = .ok (.iaload, 1) := by decide +kernel
theorem dX0_reachable_65 : decode cX0_reachable 65 = .ok (.iconst 1, 1) := by decide +kernel
theorem dX0_reachable_66 : decode cX0_reachable 66 = .ok (.isub, 1) := by decide +kernel
theorem dX0_reachable_67 : decode cX0_reachable 67 = .ok (.istore 5, 2) := by decide +kernel
theorem dX0_reachable_69 : decode cX0_reachable 69 = .ok (.iload 5, 2) := by decide +kernel
theorem dX0_reachable_71 : decode cX0_reachable 71 = .ok (.ifCond .lt 29, 3) := by decide +kernel
theorem dX0_reachable_74 : decode cX0_reachable 74 = .ok (.aload_n 0, 1) := by decide +kernel
theorem dX0_reachable_75 : decode cX0_reachable 75 = .ok (.iload 5, 2) := by decide +kernel
theorem dX0_reachable_77 : decode cX0_reachable 77 = .ok (.iload_n 2, 1) := by decide +kernel
theorem dX0_reachable_78 : decode cX0_reachable 78 = .ok (.invokevirtual 91, 3) := by decide +kernel
theorem dX0_reachable_81 : decode cX0_reachable 81 = .ok (.iload_n 3, 1) := by decide +kernel
theorem dX0_reachable_82 : decode cX0_reachable 82 = .ok (.if_icmp .lt 18, 3) := by decide +kernel
theorem dX0_reachable_85 : decode cX0_reachable 85 = .ok (.iload 4, 2) := by decide +kernel
theorem dX0_reachable_87 : decode cX0_reachable 87 = .ok (.iconst 1, 1) := by decide +kernel
theorem dX0_reachable_88 : decode cX0_reachable 88 = .ok (.iload 5, 2) := by decide +kernel
theorem dX0_reachable_90 : decode cX0_reachable 90 = .ok (.ishl, 1) := by decide +kernel
theorem dX0_reachable_91 : decode cX0_reachable 91 = .ok (.ior, 1) := by decide +kernel
theorem dX0_reachable_92 : decode cX0_reachable 92 = .ok (.istore 4, 2) := by decide +kernel
theorem dX0_reachable_94 : decode cX0_reachable 94 = .ok (.iinc 5 (-1), 3) := by decide +kernel
theorem dX0_reachable_97 : decode cX0_reachable 97 = .ok (.goto (-28), 3) := by decide +kernel
theorem dX0_reachable_100 : decode cX0_reachable 100 = .ok (.iload 4, 2) := by decide +kernel
theorem dX0_reachable_102 : decode cX0_reachable 102 = .ok (.ireturn, 1) := by decide +kernel
theorem dX0_canReach_0 : decode cX0_canReach 0 = .ok (.aload_n 0, 1) := by decide +kernel
theorem dX0_canReach_1 : decode cX0_canReach 1 = .ok (.iload_n 1, 1) := by decide +kernel
theorem dX0_canReach_2 : decode cX0_canReach 2 = .ok (.iload_n 3, 1) := by decide +kernel
theorem dX0_canReach_3 : decode cX0_canReach 3 = .ok (.invokevirtual 94, 3) := by decide +kernel
theorem dX0_canReach_6 : decode cX0_canReach 6 = .ok (.iload_n 2, 1) := by decide +kernel
theorem dX0_canReach_7 : decode cX0_canReach 7 = .ok (.ishr, 1) := by decide +kernel
theorem dX0_canReach_8 : decode cX0_canReach 8 = .ok (.iconst 1, 1) := by decide +kernel
theorem dX0_canReach_9 : decode cX0_canReach 9 = .ok (.iand, 1) := by decide +kernel
theorem dX0_canReach_10 : decode cX0_canReach 10 = .ok (.iconst 1, 1) := by decide +kernel
theorem dX0_canReach_11 : decode cX0_canReach 11 = .ok (.if_icmp .ne 7, 3) := by decide +kernel
theorem dX0_canReach_14 : decode cX0_canReach 14 = .ok (.iconst 1, 1) := by decide +kernel
theorem dX0_canReach_15 : decode cX0_canReach 15 = .ok (.goto 4, 3) := by decide +kernel
theorem dX0_canReach_18 : decode cX0_canReach 18 = .ok (.iconst 0, 1) := by decide +kernel
theorem dX0_canReach_19 : decode cX0_canReach 19 = .ok (.ireturn, 1) := by decide +kernel
theorem dX0_measuresToAim_0 : decode cX0_measuresToAim 0 = .ok (.iconst 0, 1) := by decide +kernel
theorem dX0_measuresToAim_1 : decode cX0_measuresToAim 1 = .ok (.istore_n 2, 1) := by decide +kernel
theorem dX0_measuresToAim_2 : decode cX0_measuresToAim 2 = .ok (.bipush 16, 2) := by decide +kernel
theorem dX0_measuresToAim_4 : decode cX0_measuresToAim 4 = .ok (.istore_n 3, 1) := by decide +kernel
theorem dX0_measuresToAim_5 : decode cX0_measuresToAim 5 = .ok (.iload_n 3, 1) := by decide +kernel
theorem dX0_measuresToAim_6 : decode cX0_measuresToAim 6 = .ok (.bipush 36, 2) := by decide +kernel
theorem dX0_measuresToAim_8 : decode cX0_measuresToAim 8 = .ok (.if_icmp .gt 27, 3) := by decide +kernel
theorem dX0_measuresToAim_11 : decode cX0_measuresToAim 11 = .ok (.aload_n 0, 1) := by decide +kernel
theorem dX0_measuresToAim_12 : decode cX0_measuresToAim 12 = .ok (.iload_n 1, 1) := by decide +kernel
theorem dX0_measuresToAim_13 : decode cX0_measuresToAim 13 = .ok (.aload_n 0, 1) := by decide +kernel
theorem dX0_measuresToAim_14 : decode cX0_measuresToAim 14 = .ok (.getfield 41, 3) := by decide +kernel
theorem dX0_measuresToAim_17 : decode cX0_measuresToAim 17 = .ok (.iload_n 1, 1) := by decide +kernel
theorem dX0_measuresToAim_18 : decode cX0_measuresToAim 18 = .ok (.iaload, 1) := by decide +kernel
theorem dX0_measuresToAim_19 : decode cX0_measuresToAim 19 = .ok (.iload_n 3, 1) := by decide +kernel
theorem dX0_measuresToAim_20 : decode cX0_measuresToAim 20 = .ok (.invokevirtual 97, 3) := by decide +kernel
theorem dX0_measuresToAim_23 : decode cX0_measuresToAim 23 = .ok (.ifCond .eq 6, 3) := by decide +kernel
theorem dX0_measuresToAim_26 : decode cX0_measuresToAim 26 = .ok (.iinc 2 1, 3) := by decide +kernel
theorem dX0_measuresToAim_29 : decode cX0_measuresToAim 29 = .ok (.iinc 3 1, 3) := by decide +kernel
theorem dX0_measuresToAim_32 : decode cX0_measuresToAim 32 = .ok (.goto (-27), 3) := by decide +kernel
theorem dX0_measuresToAim_35 : decode cX0_measuresToAim 35 = .ok (.iload_n 2, 1) := by decide +kernel
theorem dX0_measuresToAim_36 : decode cX0_measuresToAim 36 = .ok (.ireturn, 1) := by decide +kernel
theorem dX0_passHours_0 : decode cX0_passHours 0 = .ok (.iconst 0, 1) := by decide +kernel
theorem dX0_passHours_1 : decode cX0_passHours 1 = .ok (.istore_n 2, 1) := by decide +kernel
theorem dX0_passHours_2 : decode cX0_passHours 2 = .ok (.iload_n 2, 1) := by decide +kernel
theorem dX0_passHours_3 : decode cX0_passHours 3 = .ok (.iload_n 1, 1) := by decide +kernel
theorem dX0_passHours_4 : decode cX0_passHours 4 = .ok (.if_icmp .ge 13, 3) := by decide +kernel
theorem dX0_passHours_7 : decode cX0_passHours 7 = .ok (.aload_n 0, 1) := by decide +kernel
theorem dX0_passHours_8 : decode cX0_passHours 8 = .ok (.invokevirtual 101, 3) := by decide +kernel
theorem dX0_passHours_11 : decode cX0_passHours 11 = .ok (.iinc 2 1, 3) := by decide +kernel
theorem dX0_passHours_14 : decode cX0_passHours 14 = .ok (.goto (-12), 3) := by decide +kernel
theorem dX0_passHours_17 : decode cX0_passHours 17 = .ok (.return_, 1) := by decide +kernel
theorem dX0_holdsFor_0 : decode cX0_holdsFor 0 = .ok (.iconst 0, 1) := by decide +kernel
theorem dX0_holdsFor_1 : decode cX0_holdsFor 1 = .ok (.istore_n 2, 1) := by decide +kernel
theorem dX0_holdsFor_2 : decode cX0_holdsFor 2 = .ok (.iload_n 2, 1) := by decide +kernel
theorem dX0_holdsFor_3 : decode cX0_holdsFor 3 = .ok (.iload_n 1, 1) := by decide +kernel
theorem dX0_holdsFor_4 : decode cX0_holdsFor 4 = .ok (.if_icmp .ge 20, 3) := by decide +kernel
theorem dX0_holdsFor_7 : decode cX0_holdsFor 7 = .ok (.aload_n 0, 1) := by decide +kernel
theorem dX0_holdsFor_8 : decode cX0_holdsFor 8 = .ok (.getfield 23, 3) := by decide +kernel
theorem dX0_holdsFor_11 : decode cX0_holdsFor 11 = .ok (.ifCond .ne 13, 3) := by decide +kernel
theorem dX0_holdsFor_14 : decode cX0_holdsFor 14 = .ok (.aload_n 0, 1) := by decide +kernel
theorem dX0_holdsFor_15 : decode cX0_holdsFor 15 = .ok (.invokevirtual 101, 3) := by decide +kernel
theorem dX0_holdsFor_18 : decode cX0_holdsFor 18 = .ok (.iinc 2 1, 3) := by decide +kernel
theorem dX0_holdsFor_21 : decode cX0_holdsFor 21 = .ok (.goto (-19), 3) := by decide +kernel
theorem dX0_holdsFor_24 : decode cX0_holdsFor 24 = .ok (.aload_n 0, 1) := by decide +kernel
theorem dX0_holdsFor_25 : decode cX0_holdsFor 25 = .ok (.getfield 23, 3) := by decide +kernel
theorem dX0_holdsFor_28 : decode cX0_holdsFor 28 = .ok (.ifCond .ne 7, 3) := by decide +kernel
theorem dX0_holdsFor_31 : decode cX0_holdsFor 31 = .ok (.iconst 1, 1) := by decide +kernel
theorem dX0_holdsFor_32 : decode cX0_holdsFor 32 = .ok (.goto 4, 3) := by decide +kernel
theorem dX0_holdsFor_35 : decode cX0_holdsFor 35 = .ok (.iconst 0, 1) := by decide +kernel
theorem dX0_holdsFor_36 : decode cX0_holdsFor 36 = .ok (.ireturn, 1) := by decide +kernel
theorem dX0_passHour_0 : decode cX0_passHour 0 = .ok (.aload_n 0, 1) := by decide +kernel
theorem dX0_passHour_1 : decode cX0_passHour 1 = .ok (.invokevirtual 104, 3) := by decide +kernel
theorem dX0_passHour_4 : decode cX0_passHour 4 = .ok (.istore_n 1, 1) := by decide +kernel
theorem dX0_passHour_5 : decode cX0_passHour 5 = .ok (.iconst 0, 1) := by decide +kernel
theorem dX0_passHour_6 : decode cX0_passHour 6 = .ok (.istore_n 2, 1) := by decide +kernel
theorem dX0_passHour_7 : decode cX0_passHour 7 = .ok (.iload_n 2, 1) := by decide +kernel
theorem dX0_passHour_8 : decode cX0_passHour 8 = .ok (.aload_n 0, 1) := by decide +kernel
theorem dX0_passHour_9 : decode cX0_passHour 9 = .ok (.getfield 29, 3) := by decide +kernel
theorem dX0_passHour_12 : decode cX0_passHour 12 = .ok (.if_icmp .ge 39, 3) := by decide +kernel
theorem dX0_passHour_15 : decode cX0_passHour 15 = .ok (.aload_n 0, 1) := by decide +kernel
theorem dX0_passHour_16 : decode cX0_passHour 16 = .ok (.getfield 47, 3) := by decide +kernel
theorem dX0_passHour_19 : decode cX0_passHour 19 = .ok (.iload_n 2, 1) := by decide +kernel
theorem dX0_passHour_20 : decode cX0_passHour 20 = .ok (.iaload, 1) := by decide +kernel
theorem dX0_passHour_21 : decode cX0_passHour 21 = .ok (.ifCond .ne 24, 3) := by decide +kernel
theorem dX0_passHour_24 : decode cX0_passHour 24 = .ok (.aload_n 0, 1) := by decide +kernel
theorem dX0_passHour_25 : decode cX0_passHour 25 = .ok (.getfield 35, 3) := by decide +kernel
theorem dX0_passHour_28 : decode cX0_passHour 28 = .ok (.iload_n 2, 1) := by decide +kernel
theorem dX0_passHour_29 : decode cX0_passHour 29 = .ok (.iaload, 1) := by decide +kernel
theorem dX0_passHour_30 : decode cX0_passHour 30 = .ok (.aload_n 0, 1) := by decide +kernel
theorem dX0_passHour_31 : decode cX0_passHour 31 = .ok (.getfield 41, 3) := by decide +kernel
theorem dX0_passHour_34 : decode cX0_passHour 34 = .ok (.iload_n 2, 1) := by decide +kernel
theorem dX0_passHour_35 : decode cX0_passHour 35 = .ok (.iaload, 1) := by decide +kernel
theorem dX0_passHour_36 : decode cX0_passHour 36 = .ok (.if_icmp .eq 9, 3) := by decide +kernel
theorem dX0_passHour_39 : decode cX0_passHour 39 = .ok (.aload_n 0, 1) := by decide +kernel
theorem dX0_passHour_40 : decode cX0_passHour 40 = .ok (.iload_n 2, 1) := by decide +kernel
theorem dX0_passHour_41 : decode cX0_passHour 41 = .ok (.iload_n 1, 1) := by decide +kernel
theorem dX0_passHour_42 : decode cX0_passHour 42 = .ok (.invokevirtual 107, 3) := by decide +kernel
theorem dX0_passHour_45 : decode cX0_passHour 45 = .ok (.iinc 2 1, 3) := by decide +kernel
theorem dX0_passHour_48 : decode cX0_passHour 48 = .ok (.goto (-41), 3) := by decide +kernel
theorem dX0_passHour_51 : decode cX0_passHour 51 = .ok (.aload_n 0, 1) := by decide +kernel
theorem dX0_passHour_52 : decode cX0_passHour 52 = .ok (.getfield 23, 3) := by decide +kernel
theorem dX0_passHour_55 : decode cX0_passHour 55 = .ok (.ifCond .ne 8, 3) := by decide +kernel
theorem dX0_passHour_58 : decode cX0_passHour 58 = .ok (.aload_n 0, 1) := by decide +kernel
theorem dX0_passHour_59 : decode cX0_passHour 59 = .ok (.iload_n 1, 1) := by decide +kernel
theorem dX0_passHour_60 : decode cX0_passHour 60 = .ok (.invokevirtual 111, 3) := by decide +kernel
theorem dX0_passHour_63 : decode cX0_passHour 63 = .ok (.aload_n 0, 1) := by decide +kernel
theorem dX0_passHour_64 : decode cX0_passHour 64 = .ok (.aload_n 0, 1) := by decide +kernel
theorem dX0_passHour_65 : decode cX0_passHour 65 = .ok (.getfield 26, 3) := by decide +kernel
theorem dX0_passHour_68 : decode cX0_passHour 68 = .ok (.iconst 1, 1) := by decide +kernel
theorem dX0_passHour_69 : decode cX0_passHour 69 = .ok (.iadd, 1) := by decide +kernel
theorem dX0_passHour_70 : decode cX0_passHour 70 = .ok (.ldc 115, 2) := by decide +kernel
theorem dX0_passHour_72 : decode cX0_passHour 72 = .ok (.invokestatic 116, 3) := by decide +kernel
theorem dX0_passHour_75 : decode cX0_passHour 75 = .ok (.putfield 26, 3) := by decide +kernel
theorem dX0_passHour_78 : decode cX0_passHour 78 = .ok (.return_, 1) := by decide +kernel
theorem dX0_walk_0 : decode cX0_walk 0 = .ok (.aload_n 0, 1) := by decide +kernel
theorem dX0_walk_1 : decode cX0_walk 1 = .ok (.iload_n 1, 1) := by decide +kernel
theorem dX0_walk_2 : decode cX0_walk 2 = .ok (.invokevirtual 88, 3) := by decide +kernel
theorem dX0_walk_5 : decode cX0_walk 5 = .ok (.istore_n 3, 1) := by decide +kernel
theorem dX0_walk_6 : decode cX0_walk 6 = .ok (.aload_n 0, 1) := by decide +kernel
theorem dX0_walk_7 : decode cX0_walk 7 = .ok (.getfield 32, 3) := by decide +kernel
theorem dX0_walk_10 : decode cX0_walk 10 = .ok (.iload_n 1, 1) := by decide +kernel
theorem dX0_walk_11 : decode cX0_walk 11 = .ok (.iaload, 1) := by decide +kernel
theorem dX0_walk_12 : decode cX0_walk 12 = .ok (.invokestatic 119, 3) := by decide +kernel
theorem dX0_walk_15 : decode cX0_walk 15 = .ok (.istore 4, 2) := by decide +kernel
theorem dX0_walk_17 : decode cX0_walk 17 = .ok (.aload_n 0, 1) := by decide +kernel
theorem dX0_walk_18 : decode cX0_walk 18 = .ok (.getfield 41, 3) := by decide +kernel
theorem dX0_walk_21 : decode cX0_walk 21 = .ok (.iload_n 1, 1) := by decide +kernel
theorem dX0_walk_22 : decode cX0_walk 22 = .ok (.iaload, 1) := by decide +kernel
theorem dX0_walk_23 : decode cX0_walk 23 = .ok (.aload_n 0, 1) := by decide +kernel
theorem dX0_walk_24 : decode cX0_walk 24 = .ok (.getfield 35, 3) := by decide +kernel
theorem dX0_walk_27 : decode cX0_walk 27 = .ok (.iload_n 1, 1) := by decide +kernel
theorem dX0_walk_28 : decode cX0_walk 28 = .ok (.iaload, 1) := by decide +kernel
theorem dX0_walk_29 : decode cX0_walk 29 = .ok (.if_icmp .le 7, 3) := by decide +kernel
theorem dX0_walk_32 : decode cX0_walk 32 = .ok (.iconst 1, 1) := by decide +kernel
theorem dX0_walk_33 : decode cX0_walk 33 = .ok (.goto 4, 3) := by decide +kernel
theorem dX0_walk_36 : decode cX0_walk 36 = .ok (.iconst (-1), 1) := by decide +kernel
theorem dX0_walk_37 : decode cX0_walk 37 = .ok (.istore 5, 2) := by decide +kernel
theorem dX0_walk_39 : decode cX0_walk 39 = .ok (.iconst 0, 1) := by decide +kernel
theorem dX0_walk_40 : decode cX0_walk 40 = .ok (.istore 6, 2) := by decide +kernel
theorem dX0_walk_42 : decode cX0_walk 42 = .ok (.iload 6, 2) := by decide +kernel
theorem dX0_walk_44 : decode cX0_walk 44 = .ok (.iload 4, 2) := by decide +kernel
theorem dX0_walk_46 : decode cX0_walk 46 = .ok (.if_icmp .ge 53, 3) := by decide +kernel
theorem dX0_walk_49 : decode cX0_walk 49 = .ok (.aload_n 0, 1) := by decide +kernel
theorem dX0_walk_50 : decode cX0_walk 50 = .ok (.getfield 35, 3) := by decide +kernel
theorem dX0_walk_53 : decode cX0_walk 53 = .ok (.iload_n 1, 1) := by decide +kernel
theorem dX0_walk_54 : decode cX0_walk 54 = .ok (.iaload, 1) := by decide +kernel
theorem dX0_walk_55 : decode cX0_walk 55 = .ok (.aload_n 0, 1) := by decide +kernel
theorem dX0_walk_56 : decode cX0_walk 56 = .ok (.getfield 41, 3) := by decide +kernel
theorem dX0_walk_59 : decode cX0_walk 59 = .ok (.iload_n 1, 1) := by decide +kernel
theorem dX0_walk_60 : decode cX0_walk 60 = .ok (.iaload, 1) := by decide +kernel
theorem dX0_walk_61 : decode cX0_walk 61 = .ok (.if_icmp .eq 38, 3) := by decide +kernel
theorem dX0_walk_64 : decode cX0_walk 64 = .ok (.aload_n 0, 1) := by decide +kernel
theorem dX0_walk_65 : decode cX0_walk 65 = .ok (.aload_n 0, 1) := by decide +kernel
theorem dX0_walk_66 : decode cX0_walk 66 = .ok (.getfield 35, 3) := by decide +kernel
theorem dX0_walk_69 : decode cX0_walk 69 = .ok (.iload_n 1, 1) := by decide +kernel
theorem dX0_walk_70 : decode cX0_walk 70 = .ok (.iaload, 1) := by decide +kernel
theorem dX0_walk_71 : decode cX0_walk 71 = .ok (.iload 5, 2) := by decide +kernel
theorem dX0_walk_73 : decode cX0_walk 73 = .ok (.iadd, 1) := by decide +kernel
theorem dX0_walk_74 : decode cX0_walk 74 = .ok (.iload_n 2, 1) := by decide +kernel
theorem dX0_walk_75 : decode cX0_walk 75 = .ok (.invokevirtual 91, 3) := by decide +kernel
theorem dX0_walk_78 : decode cX0_walk 78 = .ok (.iload_n 3, 1) := by decide +kernel
theorem dX0_walk_79 : decode cX0_walk 79 = .ok (.if_icmp .lt 20, 3) := by decide +kernel
theorem dX0_walk_82 : decode cX0_walk 82 = .ok (.aload_n 0, 1) := by decide +kernel
theorem dX0_walk_83 : decode cX0_walk 83 = .ok (.getfield 35, 3) := by decide +kernel
theorem dX0_walk_86 : decode cX0_walk 86 = .ok (.iload_n 1, 1) := by decide +kernel
theorem dX0_walk_87 : decode cX0_walk 87 = .ok (.dup2, 1) := by decide +kernel
theorem dX0_walk_88 : decode cX0_walk 88 = .ok (.iaload, 1) := by decide +kernel
theorem dX0_walk_89 : decode cX0_walk 89 = .ok (.iload 5, 2) := by decide +kernel
theorem dX0_walk_91 : decode cX0_walk 91 = .ok (.iadd, 1) := by decide +kernel
theorem dX0_walk_92 : decode cX0_walk 92 = .ok (.iastore, 1) := by decide +kernel
theorem dX0_walk_93 : decode cX0_walk 93 = .ok (.iinc 6 1, 3) := by decide +kernel
theorem dX0_walk_96 : decode cX0_walk 96 = .ok (.goto (-54), 3) := by decide +kernel
theorem dX0_walk_99 : decode cX0_walk 99 = .ok (.aload_n 0, 1) := by decide +kernel
theorem dX0_walk_100 : decode cX0_walk 100 = .ok (.getfield 44, 3) := by decide +kernel
theorem dX0_walk_103 : decode cX0_walk 103 = .ok (.iload_n 1, 1) := by decide +kernel
theorem dX0_walk_104 : decode cX0_walk 104 = .ok (.iload 6, 2) := by decide +kernel
theorem dX0_walk_106 : decode cX0_walk 106 = .ok (.ifCond .le 7, 3) := by decide +kernel
theorem dX0_walk_109 : decode cX0_walk 109 = .ok (.iconst 0, 1) := by decide +kernel
theorem dX0_walk_110 : decode cX0_walk 110 = .ok (.goto 17, 3) := by decide +kernel
theorem dX0_walk_113 : decode cX0_walk 113 = .ok (.aload_n 0, 1) := by decide +kernel
theorem dX0_walk_114 : decode cX0_walk 114 = .ok (.getfield 44, 3) := by decide +kernel
theorem dX0_walk_117 : decode cX0_walk 117 = .ok (.iload_n 1, 1) := by decide +kernel
theorem dX0_walk_118 : decode cX0_walk 118 = .ok (.iaload, 1) := by decide +kernel
theorem dX0_walk_119 : decode cX0_walk 119 = .ok (.iconst 1, 1) := by decide +kernel
theorem dX0_walk_120 : decode cX0_walk 120 = .ok (.iadd, 1) := by decide +kernel
theorem dX0_walk_121 : decode cX0_walk 121 = .ok (.sipush 9999, 3) := by decide +kernel
theorem dX0_walk_124 : decode cX0_walk 124 = .ok (.invokestatic 116, 3) := by decide +kernel
theorem dX0_walk_127 : decode cX0_walk 127 = .ok (.iastore, 1) := by decide +kernel
theorem dX0_walk_128 : decode cX0_walk 128 = .ok (.return_, 1) := by decide +kernel
theorem dX0_pull_0 : decode cX0_pull 0 = .ok (.bipush 36, 2) := by decide +kernel
theorem dX0_pull_2 : decode cX0_pull 2 = .ok (.iload_n 1, 1) := by decide +kernel
theorem dX0_pull_3 : decode cX0_pull 3 = .ok (.isub, 1) := by decide +kernel
theorem dX0_pull_4 : decode cX0_pull 4 = .ok (.istore_n 2, 1) := by decide +kernel
theorem dX0_pull_5 : decode cX0_pull 5 = .ok (.iconst 0, 1) := by decide +kernel
theorem dX0_pull_6 : decode cX0_pull 6 = .ok (.istore_n 3, 1) := by decide +kernel
theorem dX0_pull_7 : decode cX0_pull 7 = .ok (.iconst 0, 1) := by decide +kernel
theorem dX0_pull_8 : decode cX0_pull 8 = .ok (.istore 4, 2) := by decide +kernel
theorem dX0_pull_10 : decode cX0_pull 10 = .ok (.iload 4, 2) := by decide +kernel
theorem dX0_pull_12 : decode cX0_pull 12 = .ok (.aload_n 0, 1) := by decide +kernel
theorem dX0_pull_13 : decode cX0_pull 13 = .ok (.getfield 29, 3) := by decide +kernel
theorem dX0_pull_16 : decode cX0_pull 16 = .ok (.if_icmp .ge 63, 3) := by decide +kernel
theorem dX0_pull_19 : decode cX0_pull 19 = .ok (.aload_n 0, 1) := by decide +kernel
theorem dX0_pull_20 : decode cX0_pull 20 = .ok (.getfield 47, 3) := by decide +kernel
theorem dX0_pull_23 : decode cX0_pull 23 = .ok (.iload 4, 2) := by decide +kernel
theorem dX0_pull_25 : decode cX0_pull 25 = .ok (.iaload, 1) := by decide +kernel
theorem dX0_pull_26 : decode cX0_pull 26 = .ok (.ifCond .ne 47, 3) := by decide +kernel
theorem dX0_pull_29 : decode cX0_pull 29 = .ok (.iload_n 2, 1) := by decide +kernel
theorem dX0_pull_30 : decode cX0_pull 30 = .ok (.aload_n 0, 1) := by decide +kernel
theorem dX0_pull_31 : decode cX0_pull 31 = .ok (.getfield 35, 3) := by decide +kernel
theorem dX0_pull_34 : decode cX0_pull 34 = .ok (.iload 4, 2) := by decide +kernel
theorem dX0_pull_36 : decode cX0_pull 36 = .ok (.iaload, 1) := by decide +kernel
theorem dX0_pull_37 : decode cX0_pull 37 = .ok (.ifCond .ne 20, 3) := by decide +kernel
theorem dX0_pull_40 : decode cX0_pull 40 = .ok (.aload_n 0, 1) := by decide +kernel
theorem dX0_pull_41 : decode cX0_pull 41 = .ok (.getfield 32, 3) := by decide +kernel
theorem dX0_pull_44 : decode cX0_pull 44 = .ok (.iload 4, 2) := by decide +kernel
theorem dX0_pull_46 : decode cX0_pull 46 = .ok (.iaload, 1) := by decide +kernel
theorem dX0_pull_47 : decode cX0_pull 47 = .ok (.aload_n 0, 1) := by decide +kernel
theorem dX0_pull_48 : decode cX0_pull 48 = .ok (.getfield 26, 3) := by decide +kernel
theorem dX0_pull_51 : decode cX0_pull 51 = .ok (.invokestatic 122, 3) := by decide +kernel
theorem dX0_pull_54 : decode cX0_pull 54 = .ok (.goto 4, 3) := by decide +kernel
theorem dX0_pull_57 : decode cX0_pull 57 = .ok (.iconst 0, 1) := by decide +kernel
theorem dX0_pull_58 : decode cX0_pull 58 = .ok (.iadd, 1) := by decide +kernel
theorem dX0_pull_59 : decode cX0_pull 59 = .ok (.istore_n 2, 1) := by decide +kernel
theorem dX0_pull_60 : decode cX0_pull 60 = .ok (.iload_n 3, 1) := by decide +kernel
theorem dX0_pull_61 : decode cX0_pull 61 = .ok (.aload_n 0, 1) := by decide +kernel
theorem dX0_pull_62 : decode cX0_pull 62 = .ok (.getfield 32, 3) := by decide +kernel
theorem dX0_pull_65 : decode cX0_pull 65 = .ok (.iload 4, 2) := by decide +kernel
theorem dX0_pull_67 : decode cX0_pull 67 = .ok (.iaload, 1) := by decide +kernel
theorem dX0_pull_68 : decode cX0_pull 68 = .ok (.invokestatic 125, 3) := by decide +kernel
theorem dX0_pull_71 : decode cX0_pull 71 = .ok (.iadd, 1) := by decide +kernel
theorem dX0_pull_72 : decode cX0_pull 72 = .ok (.istore_n 3, 1) := by decide +kernel
theorem dX0_pull_73 : decode cX0_pull 73 = .ok (.iinc 4 1, 3) := by decide +kernel
theorem dX0_pull_76 : decode cX0_pull 76 = .ok (.goto (-66), 3) := by decide +kernel
theorem dX0_pull_79 : decode cX0_pull 79 = .ok (.aload_n 0, 1) := by decide +kernel
theorem dX0_pull_80 : decode cX0_pull 80 = .ok (.aload_n 0, 1) := by decide +kernel
theorem dX0_pull_81 : decode cX0_pull 81 = .ok (.getfield 20, 3) := by decide +kernel
theorem dX0_pull_84 : decode cX0_pull 84 = .ok (.iload_n 2, 1) := by decide +kernel
theorem dX0_pull_85 : decode cX0_pull 85 = .ok (.iadd, 1) := by decide +kernel
theorem dX0_pull_86 : decode cX0_pull 86 = .ok (.iload_n 3, 1) := by decide +kernel
theorem dX0_pull_87 : decode cX0_pull 87 = .ok (.isub, 1) := by decide +kernel
theorem dX0_pull_88 : decode cX0_pull 88 = .ok (.iconst 0, 1) := by decide +kernel
theorem dX0_pull_89 : decode cX0_pull 89 = .ok (.invokestatic 82, 3) := by decide +kernel
theorem dX0_pull_92 : decode cX0_pull 92 = .ok (.sipush 9999, 3) := by decide +kernel
theorem dX0_pull_95 : decode cX0_pull 95 = .ok (.invokestatic 116, 3) := by decide +kernel
theorem dX0_pull_98 : decode cX0_pull 98 = .ok (.putfield 20, 3) := by decide +kernel
theorem dX0_pull_101 : decode cX0_pull 101 = .ok (.aload_n 0, 1) := by decide +kernel
theorem dX0_pull_102 : decode cX0_pull 102 = .ok (.getfield 20, 3) := by decide +kernel
theorem dX0_pull_105 : decode cX0_pull 105 = .ok (.aload_n 0, 1) := by decide +kernel
theorem dX0_pull_106 : decode cX0_pull 106 = .ok (.getfield 16, 3) := by decide +kernel
theorem dX0_pull_109 : decode cX0_pull 109 = .ok (.if_icmp .le 8, 3) := by decide +kernel
theorem dX0_pull_112 : decode cX0_pull 112 = .ok (.aload_n 0, 1) := by decide +kernel
theorem dX0_pull_113 : decode cX0_pull 113 = .ok (.iconst 1, 1) := by decide +kernel
theorem dX0_pull_114 : decode cX0_pull 114 = .ok (.putfield 23, 3) := by decide +kernel
theorem dX0_pull_117 : decode cX0_pull 117 = .ok (.return_, 1) := by decide +kernel
theorem dX0_draw_0 : decode cX0_draw 0 = .ok (.aload_n 0, 1) := by decide +kernel
theorem dX0_draw_1 : decode cX0_draw 1 = .ok (.aload_n 0, 1) := by decide +kernel
theorem dX0_draw_2 : decode cX0_draw 2 = .ok (.getfield 50, 3) := by decide +kernel
theorem dX0_draw_5 : decode cX0_draw 5 = .ok (.ldc 128, 2) := by decide +kernel
theorem dX0_draw_7 : decode cX0_draw 7 = .ok (.imul, 1) := by decide +kernel
theorem dX0_draw_8 : decode cX0_draw 8 = .ok (.sipush 12345, 3) := by decide +kernel
theorem dX0_draw_11 : decode cX0_draw 11 = .ok (.iadd, 1) := by decide +kernel
theorem dX0_draw_12 : decode cX0_draw 12 = .ok (.putfield 50, 3) := by decide +kernel
theorem dX0_draw_15 : decode cX0_draw 15 = .ok (.aload_n 0, 1) := by decide +kernel
theorem dX0_draw_16 : decode cX0_draw 16 = .ok (.getfield 50, 3) := by decide +kernel
theorem dX0_draw_19 : decode cX0_draw 19 = .ok (.bipush 8, 2) := by decide +kernel
theorem dX0_draw_21 : decode cX0_draw 21 = .ok (.iushr, 1) := by decide +kernel
theorem dX0_draw_22 : decode cX0_draw 22 = .ok (.ireturn, 1) := by decide +kernel
theorem dX0_passPartyHour_0 : decode cX0_passPartyHour 0 = .ok (.aload_n 0, 1) := by decide +kernel
theorem dX0_passPartyHour_1 : decode cX0_passPartyHour 1 = .ok (.getfield 13, 3) := by decide +kernel
theorem dX0_passPartyHour_4 : decode cX0_passPartyHour 4 = .ok (.aload_n 0, 1) := by decide +kernel
theorem dX0_passPartyHour_5 : decode cX0_passPartyHour 5 = .ok (.invokevirtual 78, 3) := by decide +kernel
theorem dX0_passPartyHour_8 : decode cX0_passPartyHour 8 = .ok (.bipush 16, 2) := by decide +kernel
theorem dX0_passPartyHour_10 : decode cX0_passPartyHour 10 = .ok (.aload_n 0, 1) := by decide +kernel
theorem dX0_passPartyHour_11 : decode cX0_passPartyHour 11 = .ok (.invokevirtual 129, 3) := by decide +kernel
theorem dX0_passPartyHour_14 : decode cX0_passPartyHour 14 = .ok (.bipush 21, 2) := by decide +kernel
theorem dX0_passPartyHour_16 : decode cX0_passPartyHour 16 = .ok (.irem, 1) := by decide +kernel
theorem dX0_passPartyHour_17 : decode cX0_passPartyHour 17 = .ok (.iadd, 1) := by decide +kernel
theorem dX0_passPartyHour_18 : decode cX0_passPartyHour 18 = .ok (.iastore, 1) := by decide +kernel
theorem dX0_passPartyHour_19 : decode cX0_passPartyHour 19 = .ok (.aload_n 0, 1) := by decide +kernel
theorem dX0_passPartyHour_20 : decode cX0_passPartyHour 20 = .ok (.invokevirtual 129, 3) := by decide +kernel
theorem dX0_passPartyHour_23 : decode cX0_passPartyHour 23 = .ok (.bipush 8, 2) := by decide +kernel
theorem dX0_passPartyHour_25 : decode cX0_passPartyHour 25 = .ok (.irem, 1) := by decide +kernel
theorem dX0_passPartyHour_26 : decode cX0_passPartyHour 26 = .ok (.istore_n 1, 1) := by decide +kernel
theorem dX0_passPartyHour_27 : decode cX0_passPartyHour 27 = .ok (.iload_n 1, 1) := by decide +kernel
theorem dX0_passPartyHour_28 : decode cX0_passPartyHour 28 = .ok (.aload_n 0, 1) := by decide +kernel
theorem dX0_passPartyHour_29 : decode cX0_passPartyHour 29 = .ok (.getfield 29, 3) := by decide +kernel
theorem dX0_passPartyHour_32 : decode cX0_passPartyHour 32 = .ok (.if_icmp .ge 20, 3) := by decide +kernel
theorem dX0_passPartyHour_35 : decode cX0_passPartyHour 35 = .ok (.aload_n 0, 1) := by decide +kernel
theorem dX0_passPartyHour_36 : decode cX0_passPartyHour 36 = .ok (.getfield 41, 3) := by decide +kernel
theorem dX0_passPartyHour_39 : decode cX0_passPartyHour 39 = .ok (.iload_n 1, 1) := by decide +kernel
theorem dX0_passPartyHour_40 : decode cX0_passPartyHour 40 = .ok (.aload_n 0, 1) := by decide +kernel
theorem dX0_passPartyHour_41 : decode cX0_passPartyHour 41 = .ok (.getfield 41, 3) := by decide +kernel
theorem dX0_passPartyHour_44 : decode cX0_passPartyHour 44 = .ok (.iload_n 1, 1) := by decide +kernel
theorem dX0_passPartyHour_45 : decode cX0_passPartyHour 45 = .ok (.iaload, 1) := by decide +kernel
theorem dX0_passPartyHour_46 : decode cX0_passPartyHour 46 = .ok (.iconst 1, 1) := by decide +kernel
theorem dX0_passPartyHour_47 : decode cX0_passPartyHour 47 = .ok (.iadd, 1) := by decide +kernel
theorem dX0_passPartyHour_48 : decode cX0_passPartyHour 48 = .ok (.bipush 16, 2) := by decide +kernel
theorem dX0_passPartyHour_50 : decode cX0_passPartyHour 50 = .ok (.irem, 1) := by decide +kernel
theorem dX0_passPartyHour_51 : decode cX0_passPartyHour 51 = .ok (.iastore, 1) := by decide +kernel
theorem dX0_passPartyHour_52 : decode cX0_passPartyHour 52 = .ok (.aload_n 0, 1) := by decide +kernel
theorem dX0_passPartyHour_53 : decode cX0_passPartyHour 53 = .ok (.invokevirtual 101, 3) := by decide +kernel
theorem dX0_passPartyHour_56 : decode cX0_passPartyHour 56 = .ok (.return_, 1) := by decide +kernel
theorem dX0_thoseStuck_0 : decode cX0_thoseStuck 0 = .ok (.iconst 0, 1) := by decide +kernel
theorem dX0_thoseStuck_1 : decode cX0_thoseStuck 1 = .ok (.istore_n 1, 1) := by decide +kernel
theorem dX0_thoseStuck_2 : decode cX0_thoseStuck 2 = .ok (.iconst 0, 1) := by decide +kernel
theorem dX0_thoseStuck_3 : decode cX0_thoseStuck 3 = .ok (.istore_n 2, 1) := by decide +kernel
theorem dX0_thoseStuck_4 : decode cX0_thoseStuck 4 = .ok (.iload_n 2, 1) := by decide +kernel
theorem dX0_thoseStuck_5 : decode cX0_thoseStuck 5 = .ok (.aload_n 0, 1) := by decide +kernel
theorem dX0_thoseStuck_6 : decode cX0_thoseStuck 6 = .ok (.getfield 29, 3) := by decide +kernel
theorem dX0_thoseStuck_9 : decode cX0_thoseStuck 9 = .ok (.if_icmp .ge 28, 3) := by decide +kernel
theorem dX0_thoseStuck_12 : decode cX0_thoseStuck 12 = .ok (.iload_n 1, 1) := by decide +kernel
theorem dX0_thoseStuck_13 : decode cX0_thoseStuck 13 = .ok (.aload_n 0, 1) := by decide +kernel
theorem dX0_thoseStuck_14 : decode cX0_thoseStuck 14 = .ok (.getfield 44, 3) := by decide +kernel
theorem dX0_thoseStuck_17 : decode cX0_thoseStuck 17 = .ok (.iload_n 2, 1) := by decide +kernel
theorem dX0_thoseStuck_18 : decode cX0_thoseStuck 18 = .ok (.iaload, 1) := by decide +kernel
theorem dX0_thoseStuck_19 : decode cX0_thoseStuck 19 = .ok (.ifCond .le 9, 3) := by decide +kernel
theorem dX0_thoseStuck_22 : decode cX0_thoseStuck 22 = .ok (.iconst 1, 1) := by decide +kernel
theorem dX0_thoseStuck_23 : decode cX0_thoseStuck 23 = .ok (.iload_n 2, 1) := by decide +kernel
theorem dX0_thoseStuck_24 : decode cX0_thoseStuck 24 = .ok (.ishl, 1) := by decide +kernel
theorem dX0_thoseStuck_25 : decode cX0_thoseStuck 25 = .ok (.goto 4, 3) := by decide +kernel
theorem dX0_thoseStuck_28 : decode cX0_thoseStuck 28 = .ok (.iconst 0, 1) := by decide +kernel
theorem dX0_thoseStuck_29 : decode cX0_thoseStuck 29 = .ok (.ior, 1) := by decide +kernel
theorem dX0_thoseStuck_30 : decode cX0_thoseStuck 30 = .ok (.istore_n 1, 1) := by decide +kernel
theorem dX0_thoseStuck_31 : decode cX0_thoseStuck 31 = .ok (.iinc 2 1, 3) := by decide +kernel
theorem dX0_thoseStuck_34 : decode cX0_thoseStuck 34 = .ok (.goto (-30), 3) := by decide +kernel
theorem dX0_thoseStuck_37 : decode cX0_thoseStuck 37 = .ok (.iload_n 1, 1) := by decide +kernel
theorem dX0_thoseStuck_38 : decode cX0_thoseStuck 38 = .ok (.ireturn, 1) := by decide +kernel
theorem dX0_thoseAtAim_0 : decode cX0_thoseAtAim 0 = .ok (.iconst 0, 1) := by decide +kernel
theorem dX0_thoseAtAim_1 : decode cX0_thoseAtAim 1 = .ok (.istore_n 1, 1) := by decide +kernel
theorem dX0_thoseAtAim_2 : decode cX0_thoseAtAim 2 = .ok (.iconst 0, 1) := by decide +kernel
theorem dX0_thoseAtAim_3 : decode cX0_thoseAtAim 3 = .ok (.istore_n 2, 1) := by decide +kernel
theorem dX0_thoseAtAim_4 : decode cX0_thoseAtAim 4 = .ok (.iload_n 2, 1) := by decide +kernel
theorem dX0_thoseAtAim_5 : decode cX0_thoseAtAim 5 = .ok (.aload_n 0, 1) := by decide +kernel
theorem dX0_thoseAtAim_6 : decode cX0_thoseAtAim 6 = .ok (.getfield 29, 3) := by decide +kernel
theorem dX0_thoseAtAim_9 : decode cX0_thoseAtAim 9 = .ok (.if_icmp .ge 34, 3) := by decide +kernel
theorem dX0_thoseAtAim_12 : decode cX0_thoseAtAim 12 = .ok (.iload_n 1, 1) := by decide +kernel
theorem dX0_thoseAtAim_13 : decode cX0_thoseAtAim 13 = .ok (.aload_n 0, 1) := by decide +kernel
theorem dX0_thoseAtAim_14 : decode cX0_thoseAtAim 14 = .ok (.getfield 35, 3) := by decide +kernel
theorem dX0_thoseAtAim_17 : decode cX0_thoseAtAim 17 = .ok (.iload_n 2, 1) := by decide +kernel
theorem dX0_thoseAtAim_18 : decode cX0_thoseAtAim 18 = .ok (.iaload, 1) := by decide +kernel
theorem dX0_thoseAtAim_19 : decode cX0_thoseAtAim 19 = .ok (.aload_n 0, 1) := by decide +kernel
theorem dX0_thoseAtAim_20 : decode cX0_thoseAtAim 20 = .ok (.getfield 41, 3) := by decide +kernel
theorem dX0_thoseAtAim_23 : decode cX0_thoseAtAim 23 = .ok (.iload_n 2, 1) := by decide +kernel
theorem dX0_thoseAtAim_24 : decode cX0_thoseAtAim 24 = .ok (.iaload, 1) := by decide +kernel
theorem dX0_thoseAtAim_25 : decode cX0_thoseAtAim 25 = .ok (.if_icmp .ne 9, 3) := by decide +kernel
theorem dX0_thoseAtAim_28 : decode cX0_thoseAtAim 28 = .ok (.iconst 1, 1) := by decide +kernel
theorem dX0_thoseAtAim_29 : decode cX0_thoseAtAim 29 = .ok (.iload_n 2, 1) := by decide +kernel
theorem dX0_thoseAtAim_30 : decode cX0_thoseAtAim 30 = .ok (.ishl, 1) := by decide +kernel
theorem dX0_thoseAtAim_31 : decode cX0_thoseAtAim 31 = .ok (.goto 4, 3) := by decide +kernel
theorem dX0_thoseAtAim_34 : decode cX0_thoseAtAim 34 = .ok (.iconst 0, 1) := by decide +kernel
theorem dX0_thoseAtAim_35 : decode cX0_thoseAtAim 35 = .ok (.ior, 1) := by decide +kernel
theorem dX0_thoseAtAim_36 : decode cX0_thoseAtAim 36 = .ok (.istore_n 1, 1) := by decide +kernel
theorem dX0_thoseAtAim_37 : decode cX0_thoseAtAim 37 = .ok (.iinc 2 1, 3) := by decide +kernel
theorem dX0_thoseAtAim_40 : decode cX0_thoseAtAim 40 = .ok (.goto (-36), 3) := by decide +kernel
theorem dX0_thoseAtAim_43 : decode cX0_thoseAtAim 43 = .ok (.iload_n 1, 1) := by decide +kernel
theorem dX0_thoseAtAim_44 : decode cX0_thoseAtAim 44 = .ok (.ireturn, 1) := by decide +kernel
theorem dX0_thoseInHall_0 : decode cX0_thoseInHall 0 = .ok (.iconst 0, 1) := by decide +kernel
theorem dX0_thoseInHall_1 : decode cX0_thoseInHall 1 = .ok (.istore_n 1, 1) := by decide +kernel
theorem dX0_thoseInHall_2 : decode cX0_thoseInHall 2 = .ok (.iconst 0, 1) := by decide +kernel
theorem dX0_thoseInHall_3 : decode cX0_thoseInHall 3 = .ok (.istore_n 2, 1) := by decide +kernel
theorem dX0_thoseInHall_4 : decode cX0_thoseInHall 4 = .ok (.iload_n 2, 1) := by decide +kernel
theorem dX0_thoseInHall_5 : decode cX0_thoseInHall 5 = .ok (.aload_n 0, 1) := by decide +kernel
theorem dX0_thoseInHall_6 : decode cX0_thoseInHall 6 = .ok (.getfield 29, 3) := by decide +kernel
theorem dX0_thoseInHall_9 : decode cX0_thoseInHall 9 = .ok (.if_icmp .ge 37, 3) := by decide +kernel
theorem dX0_thoseInHall_12 : decode cX0_thoseInHall 12 = .ok (.iload_n 1, 1) := by decide +kernel
theorem dX0_thoseInHall_13 : decode cX0_thoseInHall 13 = .ok (.aload_n 0, 1) := by decide +kernel
theorem dX0_thoseInHall_14 : decode cX0_thoseInHall 14 = .ok (.getfield 35, 3) := by decide +kernel
theorem dX0_thoseInHall_17 : decode cX0_thoseInHall 17 = .ok (.iload_n 2, 1) := by decide +kernel
theorem dX0_thoseInHall_18 : decode cX0_thoseInHall 18 = .ok (.iaload, 1) := by decide +kernel
theorem dX0_thoseInHall_19 : decode cX0_thoseInHall 19 = .ok (.ifCond .ne 18, 3) := by decide +kernel
theorem dX0_thoseInHall_22 : decode cX0_thoseInHall 22 = .ok (.aload_n 0, 1) := by decide +kernel
theorem dX0_thoseInHall_23 : decode cX0_thoseInHall 23 = .ok (.getfield 47, 3) := by decide +kernel
theorem dX0_thoseInHall_26 : decode cX0_thoseInHall 26 = .ok (.iload_n 2, 1) := by decide +kernel
theorem dX0_thoseInHall_27 : decode cX0_thoseInHall 27 = .ok (.iaload, 1) := by decide +kernel
theorem dX0_thoseInHall_28 : decode cX0_thoseInHall 28 = .ok (.ifCond .ne 9, 3) := by decide +kernel
theorem dX0_thoseInHall_31 : decode cX0_thoseInHall 31 = .ok (.iconst 1, 1) := by decide +kernel
theorem dX0_thoseInHall_32 : decode cX0_thoseInHall 32 = .ok (.iload_n 2, 1) := by decide +kernel
theorem dX0_thoseInHall_33 : decode cX0_thoseInHall 33 = .ok (.ishl, 1) := by decide +kernel
theorem dX0_thoseInHall_34 : decode cX0_thoseInHall 34 = .ok (.goto 4, 3) := by decide +kernel
theorem dX0_thoseInHall_37 : decode cX0_thoseInHall 37 = .ok (.iconst 0, 1) := by decide +kernel
theorem dX0_thoseInHall_38 : decode cX0_thoseInHall 38 = .ok (.ior, 1) := by decide +kernel
theorem dX0_thoseInHall_39 : decode cX0_thoseInHall 39 = .ok (.istore_n 1, 1) := by decide +kernel
theorem dX0_thoseInHall_40 : decode cX0_thoseInHall 40 = .ok (.iinc 2 1, 3) := by decide +kernel
theorem dX0_thoseInHall_43 : decode cX0_thoseInHall 43 = .ok (.goto (-39), 3) := by decide +kernel
theorem dX0_thoseInHall_46 : decode cX0_thoseInHall 46 = .ok (.iload_n 1, 1) := by decide +kernel
theorem dX0_thoseInHall_47 : decode cX0_thoseInHall 47 = .ok (.ireturn, 1) := by decide +kernel
theorem dX0_closedCells_0 : decode cX0_closedCells 0 = .ok (.aload_n 0, 1) := by decide +kernel
theorem dX0_closedCells_1 : decode cX0_closedCells 1 = .ok (.invokevirtual 104, 3) := by decide +kernel
theorem dX0_closedCells_4 : decode cX0_closedCells 4 = .ok (.istore_n 1, 1) := by decide +kernel
theorem dX0_closedCells_5 : decode cX0_closedCells 5 = .ok (.iconst 0, 1) := by decide +kernel
theorem dX0_closedCells_6 : decode cX0_closedCells 6 = .ok (.istore_n 2, 1) := by decide +kernel
theorem dX0_closedCells_7 : decode cX0_closedCells 7 = .ok (.iconst 0, 1) := by decide +kernel
theorem dX0_closedCells_8 : decode cX0_closedCells 8 = .ok (.istore_n 3, 1) := by decide +kernel
theorem dX0_closedCells_9 : decode cX0_closedCells 9 = .ok (.iload_n 3, 1) := by decide +kernel
theorem dX0_closedCells_10 : decode cX0_closedCells 10 = .ok (.bipush 16, 2) := by decide +kernel
theorem dX0_closedCells_12 : decode cX0_closedCells 12 = .ok (.if_icmp .ge 28, 3) := by decide +kernel
theorem dX0_closedCells_15 : decode cX0_closedCells 15 = .ok (.iload_n 2, 1) := by decide +kernel
theorem dX0_closedCells_16 : decode cX0_closedCells 16 = .ok (.aload_n 0, 1) := by decide +kernel
theorem dX0_closedCells_17 : decode cX0_closedCells 17 = .ok (.iload_n 3, 1) := by decide +kernel
theorem dX0_closedCells_18 : decode cX0_closedCells 18 = .ok (.iload_n 1, 1) := by decide +kernel
theorem dX0_closedCells_19 : decode cX0_closedCells 19 = .ok (.invokevirtual 91, 3) := by decide +kernel
theorem dX0_closedCells_22 : decode cX0_closedCells 22 = .ok (.ifCond .ne 9, 3) := by decide +kernel
theorem dX0_closedCells_25 : decode cX0_closedCells 25 = .ok (.iconst 1, 1) := by decide +kernel
theorem dX0_closedCells_26 : decode cX0_closedCells 26 = .ok (.iload_n 3, 1) := by decide +kernel
theorem dX0_closedCells_27 : decode cX0_closedCells 27 = .ok (.ishl, 1) := by decide +kernel
theorem dX0_closedCells_28 : decode cX0_closedCells 28 = .ok (.goto 4, 3) := by decide +kernel
theorem dX0_closedCells_31 : decode cX0_closedCells 31 = .ok (.iconst 0, 1) := by decide +kernel
theorem dX0_closedCells_32 : decode cX0_closedCells 32 = .ok (.ior, 1) := by decide +kernel
theorem dX0_closedCells_33 : decode cX0_closedCells 33 = .ok (.istore_n 2, 1) := by decide +kernel
theorem dX0_closedCells_34 : decode cX0_closedCells 34 = .ok (.iinc 3 1, 3) := by decide +kernel
theorem dX0_closedCells_37 : decode cX0_closedCells 37 = .ok (.goto (-28), 3) := by decide +kernel
theorem dX0_closedCells_40 : decode cX0_closedCells 40 = .ok (.iload_n 2, 1) := by decide +kernel
theorem dX0_closedCells_41 : decode cX0_closedCells 41 = .ok (.ireturn, 1) := by decide +kernel
theorem dX0_howManyHome_0 : decode cX0_howManyHome 0 = .ok (.iconst 0, 1) := by decide +kernel
theorem dX0_howManyHome_1 : decode cX0_howManyHome 1 = .ok (.istore_n 1, 1) := by decide +kernel
theorem dX0_howManyHome_2 : decode cX0_howManyHome 2 = .ok (.iconst 0, 1) := by decide +kernel
theorem dX0_howManyHome_3 : decode cX0_howManyHome 3 = .ok (.istore_n 2, 1) := by decide +kernel
theorem dX0_howManyHome_4 : decode cX0_howManyHome 4 = .ok (.iload_n 2, 1) := by decide +kernel
theorem dX0_howManyHome_5 : decode cX0_howManyHome 5 = .ok (.aload_n 0, 1) := by decide +kernel
theorem dX0_howManyHome_6 : decode cX0_howManyHome 6 = .ok (.getfield 29, 3) := by decide +kernel
theorem dX0_howManyHome_9 : decode cX0_howManyHome 9 = .ok (.if_icmp .ge 18, 3) := by decide +kernel
theorem dX0_howManyHome_12 : decode cX0_howManyHome 12 = .ok (.iload_n 1, 1) := by decide +kernel
theorem dX0_howManyHome_13 : decode cX0_howManyHome 13 = .ok (.aload_n 0, 1) := by decide +kernel
theorem dX0_howManyHome_14 : decode cX0_howManyHome 14 = .ok (.getfield 47, 3) := by decide +kernel
theorem dX0_howManyHome_17 : decode cX0_howManyHome 17 = .ok (.iload_n 2, 1) := by decide +kernel
theorem dX0_howManyHome_18 : decode cX0_howManyHome 18 = .ok (.iaload, 1) := by decide +kernel
theorem dX0_howManyHome_19 : decode cX0_howManyHome 19 = .ok (.iadd, 1) := by decide +kernel
theorem dX0_howManyHome_20 : decode cX0_howManyHome 20 = .ok (.istore_n 1, 1) := by decide +kernel
theorem dX0_howManyHome_21 : decode cX0_howManyHome 21 = .ok (.iinc 2 1, 3) := by decide +kernel
theorem dX0_howManyHome_24 : decode cX0_howManyHome 24 = .ok (.goto (-20), 3) := by decide +kernel
theorem dX0_howManyHome_27 : decode cX0_howManyHome 27 = .ok (.iload_n 1, 1) := by decide +kernel
theorem dX0_howManyHome_28 : decode cX0_howManyHome 28 = .ok (.ireturn, 1) := by decide +kernel
theorem dX0_howManyHeld_0 : decode cX0_howManyHeld 0 = .ok (.iconst 0, 1) := by decide +kernel
theorem dX0_howManyHeld_1 : decode cX0_howManyHeld 1 = .ok (.istore_n 1, 1) := by decide +kernel
theorem dX0_howManyHeld_2 : decode cX0_howManyHeld 2 = .ok (.iconst 0, 1) := by decide +kernel
theorem dX0_howManyHeld_3 : decode cX0_howManyHeld 3 = .ok (.istore_n 2, 1) := by decide +kernel
theorem dX0_howManyHeld_4 : decode cX0_howManyHeld 4 = .ok (.iload_n 2, 1) := by decide +kernel
theorem dX0_howManyHeld_5 : decode cX0_howManyHeld 5 = .ok (.bipush 10, 2) := by decide +kernel
theorem dX0_howManyHeld_7 : decode cX0_howManyHeld 7 = .ok (.if_icmp .ge 27, 3) := by decide +kernel
theorem dX0_howManyHeld_10 : decode cX0_howManyHeld 10 = .ok (.iload_n 1, 1) := by decide +kernel
theorem dX0_howManyHeld_11 : decode cX0_howManyHeld 11 = .ok (.aload_n 0, 1) := by decide +kernel
theorem dX0_howManyHeld_12 : decode cX0_howManyHeld 12 = .ok (.getfield 53, 3) := by decide +kernel
theorem dX0_howManyHeld_15 : decode cX0_howManyHeld 15 = .ok (.iload_n 2, 1) := by decide +kernel
theorem dX0_howManyHeld_16 : decode cX0_howManyHeld 16 = .ok (.iaload, 1) := by decide +kernel
theorem dX0_howManyHeld_17 : decode cX0_howManyHeld 17 = .ok (.iconst (-1), 1) := by decide +kernel
theorem dX0_howManyHeld_18 : decode cX0_howManyHeld 18 = .ok (.if_icmp .ne 7, 3) := by decide +kernel
theorem dX0_howManyHeld_21 : decode cX0_howManyHeld 21 = .ok (.iconst 0, 1) := by decide +kernel
theorem dX0_howManyHeld_22 : decode cX0_howManyHeld 22 = .ok (.goto 4, 3) := by decide +kernel
theorem dX0_howManyHeld_25 : decode cX0_howManyHeld 25 = .ok (.iconst 1, 1) := by decide +kernel
theorem dX0_howManyHeld_26 : decode cX0_howManyHeld 26 = .ok (.iadd, 1) := by decide +kernel
theorem dX0_howManyHeld_27 : decode cX0_howManyHeld 27 = .ok (.istore_n 1, 1) := by decide +kernel
theorem dX0_howManyHeld_28 : decode cX0_howManyHeld 28 = .ok (.iinc 2 1, 3) := by decide +kernel
theorem dX0_howManyHeld_31 : decode cX0_howManyHeld 31 = .ok (.goto (-27), 3) := by decide +kernel
theorem dX0_howManyHeld_34 : decode cX0_howManyHeld 34 = .ok (.iload_n 1, 1) := by decide +kernel
theorem dX0_howManyHeld_35 : decode cX0_howManyHeld 35 = .ok (.ireturn, 1) := by decide +kernel
theorem dX1_needs_0 : decode cX1_needs 0 = .ok (.iload_n 2, 1) := by decide +kernel
theorem dX1_needs_1 : decode cX1_needs 1 = .ok (.iconst 3, 1) := by decide +kernel
theorem dX1_needs_2 : decode cX1_needs 2 = .ok (.if_icmp .lt 8, 3) := by decide +kernel
theorem dX1_needs_5 : decode cX1_needs 5 = .ok (.bipush 8, 2) := by decide +kernel
theorem dX1_needs_7 : decode cX1_needs 7 = .ok (.goto 4, 3) := by decide +kernel
theorem dX1_needs_10 : decode cX1_needs 10 = .ok (.iconst 0, 1) := by decide +kernel
theorem dX1_needs_11 : decode cX1_needs 11 = .ok (.istore 4, 2) := by decide +kernel
theorem dX1_needs_13 : decode cX1_needs 13 = .ok (.iconst 0, 1) := by decide +kernel
theorem dX1_needs_14 : decode cX1_needs 14 = .ok (.iload_n 1, 1) := by decide +kernel
theorem dX1_needs_15 : decode cX1_needs 15 = .ok (.iconst 4, 1) := by decide +kernel
theorem dX1_needs_16 : decode cX1_needs 16 = .ok (.iadd, 1) := by decide +kernel
theorem dX1_needs_17 : decode cX1_needs 17 = .ok (.iload 4, 2) := by decide +kernel
theorem dX1_needs_19 : decode cX1_needs 19 = .ok (.isub, 1) := by decide +kernel
theorem dX1_needs_20 : decode cX1_needs 20 = .ok (.invokestatic 7, 3) := by decide +kernel
theorem dX1_needs_23 : decode cX1_needs 23 = .ok (.istore 5, 2) := by decide +kernel
theorem dX1_needs_25 : decode cX1_needs 25 = .ok (.iload_n 0, 1) := by decide +kernel
theorem dX1_needs_26 : decode cX1_needs 26 = .ok (.tableswitch 69 1 6 #[38, 47, 51, 57, 67, 41], 38) := by decide +kernel
theorem dX1_needs_64 : decode cX1_needs 64 = .ok (.iload 5, 2) := by decide +kernel
theorem dX1_needs_66 : decode cX1_needs 66 = .ok (.ireturn, 1) := by decide +kernel
theorem dX1_needs_67 : decode cX1_needs 67 = .ok (.iload 5, 2) := by decide +kernel
theorem dX1_needs_69 : decode cX1_needs 69 = .ok (.bipush 6, 2) := by decide +kernel
theorem dX1_needs_71 : decode cX1_needs 71 = .ok (.iadd, 1) := by decide +kernel
theorem dX1_needs_72 : decode cX1_needs 72 = .ok (.ireturn, 1) := by decide +kernel
theorem dX1_needs_73 : decode cX1_needs 73 = .ok (.iload_n 1, 1) := by decide +kernel
theorem dX1_needs_74 : decode cX1_needs 74 = .ok (.iconst 2, 1) := by decide +kernel
theorem dX1_needs_75 : decode cX1_needs 75 = .ok (.idiv, 1) := by decide +kernel
theorem dX1_needs_76 : decode cX1_needs 76 = .ok (.ireturn, 1) := by decide +kernel
theorem dX1_needs_77 : decode cX1_needs 77 = .ok (.iload_n 1, 1) := by decide +kernel
theorem dX1_needs_78 : decode cX1_needs 78 = .ok (.iconst 2, 1) := by decide +kernel
theorem dX1_needs_79 : decode cX1_needs 79 = .ok (.idiv, 1) := by decide +kernel
theorem dX1_needs_80 : decode cX1_needs 80 = .ok (.iconst 3, 1) := by decide +kernel
theorem dX1_needs_81 : decode cX1_needs 81 = .ok (.iadd, 1) := by decide +kernel
theorem dX1_needs_82 : decode cX1_needs 82 = .ok (.ireturn, 1) := by decide +kernel
theorem dX1_needs_83 : decode cX1_needs 83 = .ok (.iload_n 1, 1) := by decide +kernel
theorem dX1_needs_84 : decode cX1_needs 84 = .ok (.iconst 2, 1) := by decide +kernel
theorem dX1_needs_85 : decode cX1_needs 85 = .ok (.idiv, 1) := by decide +kernel
theorem dX1_needs_86 : decode cX1_needs 86 = .ok (.iconst 3, 1) := by decide +kernel
theorem dX1_needs_87 : decode cX1_needs 87 = .ok (.iadd, 1) := by decide +kernel
theorem dX1_needs_88 : decode cX1_needs 88 = .ok (.iload_n 3, 1) := by decide +kernel
theorem dX1_needs_89 : decode cX1_needs 89 = .ok (.iconst 2, 1) := by decide +kernel
theorem dX1_needs_90 : decode cX1_needs 90 = .ok (.irem, 1) := by decide +kernel
theorem dX1_needs_91 : decode cX1_needs 91 = .ok (.iadd, 1) := by decide +kernel
theorem dX1_needs_92 : decode cX1_needs 92 = .ok (.ireturn, 1) := by decide +kernel
theorem dX1_needs_93 : decode cX1_needs 93 = .ok (.iconst 4, 1) := by decide +kernel
theorem dX1_needs_94 : decode cX1_needs 94 = .ok (.ireturn, 1) := by decide +kernel
theorem dX1_needs_95 : decode cX1_needs 95 = .ok (.iload_n 1, 1) := by decide +kernel
theorem dX1_needs_96 : decode cX1_needs 96 = .ok (.ireturn, 1) := by decide +kernel
theorem dX1_steps_0 : decode cX1_steps 0 = .ok (.iload_n 0, 1) := by decide +kernel
theorem dX1_steps_1 : decode cX1_steps 1 = .ok (.tableswitch 47 1 6 #[39, 41, 43, 47, 45, 39], 39) := by decide +kernel
theorem dX1_steps_40 : decode cX1_steps 40 = .ok (.iconst 1, 1) := by decide +kernel
theorem dX1_steps_41 : decode cX1_steps 41 = .ok (.ireturn, 1) := by decide +kernel
theorem dX1_steps_42 : decode cX1_steps 42 = .ok (.iconst 4, 1) := by decide +kernel
theorem dX1_steps_43 : decode cX1_steps 43 = .ok (.ireturn, 1) := by decide +kernel
theorem dX1_steps_44 : decode cX1_steps 44 = .ok (.iconst 3, 1) := by decide +kernel
theorem dX1_steps_45 : decode cX1_steps 45 = .ok (.ireturn, 1) := by decide +kernel
theorem dX1_steps_46 : decode cX1_steps 46 = .ok (.iconst 5, 1) := by decide +kernel
theorem dX1_steps_47 : decode cX1_steps 47 = .ok (.ireturn, 1) := by decide +kernel
theorem dX1_steps_48 : decode cX1_steps 48 = .ok (.iconst 2, 1) := by decide +kernel
theorem dX1_steps_49 : decode cX1_steps 49 = .ok (.ireturn, 1) := by decide +kernel
theorem dX1_laughs_0 : decode cX1_laughs 0 = .ok (.iload_n 0, 1) := by decide +kernel
theorem dX1_laughs_1 : decode cX1_laughs 1 = .ok (.tableswitch 56 1 6 #[39, 44, 50, 52, 54, 41], 39) := by decide +kernel
theorem dX1_laughs_40 : decode cX1_laughs 40 = .ok (.iconst 5, 1) := by decide +kernel
theorem dX1_laughs_41 : decode cX1_laughs 41 = .ok (.ireturn, 1) := by decide +kernel
theorem dX1_laughs_42 : decode cX1_laughs 42 = .ok (.bipush 50, 2) := by decide +kernel
theorem dX1_laughs_44 : decode cX1_laughs 44 = .ok (.ireturn, 1) := by decide +kernel
theorem dX1_laughs_45 : decode cX1_laughs 45 = .ok (.iconst 3, 1) := by decide +kernel
theorem dX1_laughs_46 : decode cX1_laughs 46 = .ok (.iload_n 1, 1) := by decide +kernel
theorem dX1_laughs_47 : decode cX1_laughs 47 = .ok (.iconst 3, 1) := by decide +kernel
theorem dX1_laughs_48 : decode cX1_laughs 48 = .ok (.irem, 1) := by decide +kernel
theorem dX1_laughs_49 : decode cX1_laughs 49 = .ok (.iadd, 1) := by decide +kernel
theorem dX1_laughs_50 : decode cX1_laughs 50 = .ok (.ireturn, 1) := by decide +kernel
theorem dX1_laughs_51 : decode cX1_laughs 51 = .ok (.iconst 0, 1) := by decide +kernel
theorem dX1_laughs_52 : decode cX1_laughs 52 = .ok (.ireturn, 1) := by decide +kernel
theorem dX1_laughs_53 : decode cX1_laughs 53 = .ok (.iconst 1, 1) := by decide +kernel
theorem dX1_laughs_54 : decode cX1_laughs 54 = .ok (.ireturn, 1) := by decide +kernel
theorem dX1_laughs_55 : decode cX1_laughs 55 = .ok (.iconst 2, 1) := by decide +kernel
theorem dX1_laughs_56 : decode cX1_laughs 56 = .ok (.ireturn, 1) := by decide +kernel
theorem dX1_laughs_57 : decode cX1_laughs 57 = .ok (.iconst 3, 1) := by decide +kernel
theorem dX1_laughs_58 : decode cX1_laughs 58 = .ok (.ireturn, 1) := by decide +kernel
theorem dX1_laces_0 : decode cX1_laces 0 = .ok (.iload_n 0, 1) := by decide +kernel
end
section
theorem dX1_laces_1 : decode cX1_laces 1 = .ok (.iconst 3, 1) := by decide +kernel
theorem dX1_laces_2 : decode cX1_laces 2 = .ok (.if_icmp .ne 5, 3) := by decide +kernel
theorem dX1_laces_5 : decode cX1_laces 5 = .ok (.iconst 4, 1) := by decide +kernel
theorem dX1_laces_6 : decode cX1_laces 6 = .ok (.ireturn, 1) := by decide +kernel
theorem dX1_laces_7 : decode cX1_laces 7 = .ok (.iload_n 0, 1) := by decide +kernel
theorem dX1_laces_8 : decode cX1_laces 8 = .ok (.iconst 4, 1) := by decide +kernel
theorem dX1_laces_9 : decode cX1_laces 9 = .ok (.if_icmp .ne 8, 3) := by decide +kernel
theorem dX1_laces_12 : decode cX1_laces 12 = .ok (.bipush 8, 2) := by decide +kernel
theorem dX1_laces_14 : decode cX1_laces 14 = .ok (.goto 4, 3) := by decide +kernel
theorem dX1_laces_17 : decode cX1_laces 17 = .ok (.iconst 0, 1) := by decide +kernel
theorem dX1_laces_18 : decode cX1_laces 18 = .ok (.ireturn, 1) := by decide +kernel
theorem dX1_isUnder_0 : decode cX1_isUnder 0 = .ok (.iload_n 0, 1) := by decide +kernel
theorem dX1_isUnder_1 : decode cX1_isUnder 1 = .ok (.istore_n 2, 1) := by decide +kernel
theorem dX1_isUnder_2 : decode cX1_isUnder 2 = .ok (.iconst 0, 1) := by decide +kernel
theorem dX1_isUnder_3 : decode cX1_isUnder 3 = .ok (.istore_n 3, 1) := by decide +kernel
theorem dX1_isUnder_4 : decode cX1_isUnder 4 = .ok (.iload_n 3, 1) := by decide +kernel
theorem dX1_isUnder_5 : decode cX1_isUnder 5 = .ok (.bipush 7, 2) := by decide +kernel
theorem dX1_isUnder_7 : decode cX1_isUnder 7 = .ok (.if_icmp .ge 32, 3) := by decide +kernel
theorem dX1_isUnder_10 : decode cX1_isUnder 10 = .ok (.iload_n 2, 1) := by decide +kernel
theorem dX1_isUnder_11 : decode cX1_isUnder 11 = .ok (.ifCond .lt 28, 3) := by decide +kernel
theorem dX1_isUnder_14 : decode cX1_isUnder 14 = .ok (.iload_n 2, 1) := by decide +kernel
theorem dX1_isUnder_15 : decode cX1_isUnder 15 = .ok (.bipush 7, 2) := by decide +kernel
theorem dX1_isUnder_17 : decode cX1_isUnder 17 = .ok (.if_icmp .ge 22, 3) := by decide +kernel
theorem dX1_isUnder_20 : decode cX1_isUnder 20 = .ok (.iload_n 2, 1) := by decide +kernel
theorem dX1_isUnder_21 : decode cX1_isUnder 21 = .ok (.iload_n 1, 1) := by decide +kernel
theorem dX1_isUnder_22 : decode cX1_isUnder 22 = .ok (.if_icmp .ne 5, 3) := by decide +kernel
theorem dX1_isUnder_25 : decode cX1_isUnder 25 = .ok (.iconst 1, 1) := by decide +kernel
theorem dX1_isUnder_26 : decode cX1_isUnder 26 = .ok (.ireturn, 1) := by decide +kernel
theorem dX1_isUnder_27 : decode cX1_isUnder 27 = .ok (.getstatic 15, 3) := by decide +kernel
theorem dX1_isUnder_30 : decode cX1_isUnder 30 = .ok (.iload_n 2, 1) := by decide +kernel
theorem dX1_isUnder_31 : decode cX1_isUnder 31 = .ok (.iaload, 1) := by decide +kernel
theorem dX1_isUnder_32 : decode cX1_isUnder 32 = .ok (.istore_n 2, 1) := by decide +kernel
theorem dX1_isUnder_33 : decode cX1_isUnder 33 = .ok (.iinc 3 1, 3) := by decide +kernel
theorem dX1_isUnder_36 : decode cX1_isUnder 36 = .ok (.goto (-32), 3) := by decide +kernel
theorem dX1_isUnder_39 : decode cX1_isUnder 39 = .ok (.iconst 0, 1) := by decide +kernel
theorem dX1_isUnder_40 : decode cX1_isUnder 40 = .ok (.ireturn, 1) := by decide +kernel
theorem dX2_init_0 : decode cX2_init 0 = .ok (.aload_n 0, 1) := by decide +kernel
theorem dX2_init_1 : decode cX2_init 1 = .ok (.invokespecial 1, 3) := by decide +kernel
theorem dX2_init_4 : decode cX2_init 4 = .ok (.aload_n 0, 1) := by decide +kernel
theorem dX2_init_5 : decode cX2_init 5 = .ok (.iconst 4, 1) := by decide +kernel
theorem dX2_init_6 : decode cX2_init 6 = .ok (.bipush 40, 2) := by decide +kernel
theorem dX2_init_8 : decode cX2_init 8 = .ok (.multianewarray 9 2, 4) := by decide +kernel
theorem dX2_init_12 : decode cX2_init 12 = .ok (.putfield 11, 3) := by decide +kernel
theorem dX2_init_15 : decode cX2_init 15 = .ok (.aload_n 0, 1) := by decide +kernel
theorem dX2_init_16 : decode cX2_init 16 = .ok (.iconst 4, 1) := by decide +kernel
theorem dX2_init_17 : decode cX2_init 17 = .ok (.newarray .int, 2) := by decide +kernel
theorem dX2_init_19 : decode cX2_init 19 = .ok (.putfield 14, 3) := by decide +kernel
theorem dX2_init_22 : decode cX2_init 22 = .ok (.aload_n 0, 1) := by decide +kernel
theorem dX2_init_23 : decode cX2_init 23 = .ok (.iconst 4, 1) := by decide +kernel
theorem dX2_init_24 : decode cX2_init 24 = .ok (.newarray .int, 2) := by decide +kernel
theorem dX2_init_26 : decode cX2_init 26 = .ok (.putfield 18, 3) := by decide +kernel
theorem dX2_init_29 : decode cX2_init 29 = .ok (.return_, 1) := by decide +kernel
theorem dX2_isSheet_0 : decode cX2_isSheet 0 = .ok (.iload_n 0, 1) := by decide +kernel
theorem dX2_isSheet_1 : decode cX2_isSheet 1 = .ok (.ifCond .lt 12, 3) := by decide +kernel
theorem dX2_isSheet_4 : decode cX2_isSheet 4 = .ok (.iload_n 0, 1) := by decide +kernel
theorem dX2_isSheet_5 : decode cX2_isSheet 5 = .ok (.iconst 4, 1) := by decide +kernel
theorem dX2_isSheet_6 : decode cX2_isSheet 6 = .ok (.if_icmp .ge 7, 3) := by decide +kernel
theorem dX2_isSheet_9 : decode cX2_isSheet 9 = .ok (.iconst 1, 1) := by decide +kernel
theorem dX2_isSheet_10 : decode cX2_isSheet 10 = .ok (.goto 4, 3) := by decide +kernel
theorem dX2_isSheet_13 : decode cX2_isSheet 13 = .ok (.iconst 0, 1) := by decide +kernel
theorem dX2_isSheet_14 : decode cX2_isSheet 14 = .ok (.ireturn, 1) := by decide +kernel
theorem dX2_areBits_0 : decode cX2_areBits 0 = .ok (.iload_n 0, 1) := by decide +kernel
theorem dX2_areBits_1 : decode cX2_areBits 1 = .ok (.ifCond .eq 21, 3) := by decide +kernel
theorem dX2_areBits_4 : decode cX2_areBits 4 = .ok (.iload_n 0, 1) := by decide +kernel
theorem dX2_areBits_5 : decode cX2_areBits 5 = .ok (.bipush 8, 2) := by decide +kernel
theorem dX2_areBits_7 : decode cX2_areBits 7 = .ok (.if_icmp .eq 15, 3) := by decide +kernel
theorem dX2_areBits_10 : decode cX2_areBits 10 = .ok (.iload_n 0, 1) := by decide +kernel
theorem dX2_areBits_11 : decode cX2_areBits 11 = .ok (.bipush 16, 2) := by decide +kernel
theorem dX2_areBits_13 : decode cX2_areBits 13 = .ok (.if_icmp .eq 9, 3) := by decide +kernel
theorem dX2_areBits_16 : decode cX2_areBits 16 = .ok (.iload_n 0, 1) := by decide +kernel
theorem dX2_areBits_17 : decode cX2_areBits 17 = .ok (.bipush 32, 2) := by decide +kernel
theorem dX2_areBits_19 : decode cX2_areBits 19 = .ok (.if_icmp .ne 7, 3) := by decide +kernel
theorem dX2_areBits_22 : decode cX2_areBits 22 = .ok (.iconst 1, 1) := by decide +kernel
theorem dX2_areBits_23 : decode cX2_areBits 23 = .ok (.goto 4, 3) := by decide +kernel
theorem dX2_areBits_26 : decode cX2_areBits 26 = .ok (.iconst 0, 1) := by decide +kernel
theorem dX2_areBits_27 : decode cX2_areBits 27 = .ok (.ireturn, 1) := by decide +kernel
theorem dX2_isMissing_0 : decode cX2_isMissing 0 = .ok (.aload_n 0, 1) := by decide +kernel
theorem dX2_isMissing_1 : decode cX2_isMissing 1 = .ok (.getfield 14, 3) := by decide +kernel
theorem dX2_isMissing_4 : decode cX2_isMissing 4 = .ok (.iload_n 1, 1) := by decide +kernel
theorem dX2_isMissing_5 : decode cX2_isMissing 5 = .ok (.iaload, 1) := by decide +kernel
theorem dX2_isMissing_6 : decode cX2_isMissing 6 = .ok (.ifCond .ne 7, 3) := by decide +kernel
theorem dX2_isMissing_9 : decode cX2_isMissing 9 = .ok (.iconst 1, 1) := by decide +kernel
theorem dX2_isMissing_10 : decode cX2_isMissing 10 = .ok (.goto 4, 3) := by decide +kernel
theorem dX2_isMissing_13 : decode cX2_isMissing 13 = .ok (.iconst 0, 1) := by decide +kernel
theorem dX2_isMissing_14 : decode cX2_isMissing 14 = .ok (.ireturn, 1) := by decide +kernel
theorem dX2_make_0 : decode cX2_make 0 = .ok (.aload_n 0, 1) := by decide +kernel
theorem dX2_make_1 : decode cX2_make 1 = .ok (.getfield 14, 3) := by decide +kernel
theorem dX2_make_4 : decode cX2_make 4 = .ok (.iload_n 1, 1) := by decide +kernel
theorem dX2_make_5 : decode cX2_make 5 = .ok (.iload_n 2, 1) := by decide +kernel
theorem dX2_make_6 : decode cX2_make 6 = .ok (.iastore, 1) := by decide +kernel
theorem dX2_make_7 : decode cX2_make 7 = .ok (.aload_n 0, 1) := by decide +kernel
theorem dX2_make_8 : decode cX2_make 8 = .ok (.getfield 18, 3) := by decide +kernel
theorem dX2_make_11 : decode cX2_make 11 = .ok (.iload_n 1, 1) := by decide +kernel
theorem dX2_make_12 : decode cX2_make 12 = .ok (.iload_n 2, 1) := by decide +kernel
theorem dX2_make_13 : decode cX2_make 13 = .ok (.ifCond .ne 7, 3) := by decide +kernel
theorem dX2_make_16 : decode cX2_make 16 = .ok (.iconst 0, 1) := by decide +kernel
theorem dX2_make_17 : decode cX2_make 17 = .ok (.goto 4, 3) := by decide +kernel
theorem dX2_make_20 : decode cX2_make 20 = .ok (.iload_n 3, 1) := by decide +kernel
theorem dX2_make_21 : decode cX2_make 21 = .ok (.iastore, 1) := by decide +kernel
theorem dX2_make_22 : decode cX2_make 22 = .ok (.aload_n 0, 1) := by decide +kernel
theorem dX2_make_23 : decode cX2_make 23 = .ok (.getfield 11, 3) := by decide +kernel
theorem dX2_make_26 : decode cX2_make 26 = .ok (.iload_n 1, 1) := by decide +kernel
theorem dX2_make_27 : decode cX2_make 27 = .ok (.aaload, 1) := by decide +kernel
theorem dX2_make_28 : decode cX2_make 28 = .ok (.iconst 0, 1) := by decide +kernel
theorem dX2_make_29 : decode cX2_make 29 = .ok (.invokestatic 21, 3) := by decide +kernel
theorem dX2_make_32 : decode cX2_make 32 = .ok (.aload_n 0, 1) := by decide +kernel
theorem dX2_make_33 : decode cX2_make 33 = .ok (.getfield 18, 3) := by decide +kernel
theorem dX2_make_36 : decode cX2_make 36 = .ok (.iload_n 1, 1) := by decide +kernel
theorem dX2_make_37 : decode cX2_make 37 = .ok (.iaload, 1) := by decide +kernel
theorem dX2_make_38 : decode cX2_make 38 = .ok (.ireturn, 1) := by decide +kernel
theorem dX2_put_0 : decode cX2_put 0 = .ok (.bipush 32, 2) := by decide +kernel
theorem dX2_put_2 : decode cX2_put 2 = .ok (.aload_n 0, 1) := by decide +kernel
theorem dX2_put_3 : decode cX2_put 3 = .ok (.getfield 14, 3) := by decide +kernel
theorem dX2_put_6 : decode cX2_put 6 = .ok (.iload_n 1, 1) := by decide +kernel
theorem dX2_put_7 : decode cX2_put 7 = .ok (.iaload, 1) := by decide +kernel
theorem dX2_put_8 : decode cX2_put 8 = .ok (.isub, 1) := by decide +kernel
theorem dX2_put_9 : decode cX2_put 9 = .ok (.istore 4, 2) := by decide +kernel
theorem dX2_put_11 : decode cX2_put 11 = .ok (.aload_n 0, 1) := by decide +kernel
theorem dX2_put_12 : decode cX2_put 12 = .ok (.getfield 11, 3) := by decide +kernel
theorem dX2_put_15 : decode cX2_put 15 = .ok (.iload_n 1, 1) := by decide +kernel
theorem dX2_put_16 : decode cX2_put 16 = .ok (.aaload, 1) := by decide +kernel
theorem dX2_put_17 : decode cX2_put 17 = .ok (.iload_n 2, 1) := by decide +kernel
theorem dX2_put_18 : decode cX2_put 18 = .ok (.iload_n 3, 1) := by decide +kernel
theorem dX2_put_19 : decode cX2_put 19 = .ok (.iload 4, 2) := by decide +kernel
theorem dX2_put_21 : decode cX2_put 21 = .ok (.ishl, 1) := by decide +kernel
theorem dX2_put_22 : decode cX2_put 22 = .ok (.iload 4, 2) := by decide +kernel
theorem dX2_put_24 : decode cX2_put 24 = .ok (.ishr, 1) := by decide +kernel
theorem dX2_put_25 : decode cX2_put 25 = .ok (.iastore, 1) := by decide +kernel
theorem dX2_put_26 : decode cX2_put 26 = .ok (.return_, 1) := by decide +kernel
theorem dX2_hasRange_0 : decode cX2_hasRange 0 = .ok (.iload_n 2, 1) := by decide +kernel
theorem dX2_hasRange_1 : decode cX2_hasRange 1 = .ok (.ifCond .lt 33, 3) := by decide +kernel
theorem dX2_hasRange_4 : decode cX2_hasRange 4 = .ok (.iload_n 3, 1) := by decide +kernel
theorem dX2_hasRange_5 : decode cX2_hasRange 5 = .ok (.ifCond .lt 29, 3) := by decide +kernel
theorem dX2_hasRange_8 : decode cX2_hasRange 8 = .ok (.iload_n 3, 1) := by decide +kernel
theorem dX2_hasRange_9 : decode cX2_hasRange 9 = .ok (.aload_n 0, 1) := by decide +kernel
theorem dX2_hasRange_10 : decode cX2_hasRange 10 = .ok (.getfield 18, 3) := by decide +kernel
theorem dX2_hasRange_13 : decode cX2_hasRange 13 = .ok (.iload_n 1, 1) := by decide +kernel
theorem dX2_hasRange_14 : decode cX2_hasRange 14 = .ok (.iaload, 1) := by decide +kernel
theorem dX2_hasRange_15 : decode cX2_hasRange 15 = .ok (.if_icmp .gt 19, 3) := by decide +kernel
theorem dX2_hasRange_18 : decode cX2_hasRange 18 = .ok (.iload_n 2, 1) := by decide +kernel
theorem dX2_hasRange_19 : decode cX2_hasRange 19 = .ok (.aload_n 0, 1) := by decide +kernel
theorem dX2_hasRange_20 : decode cX2_hasRange 20 = .ok (.getfield 18, 3) := by decide +kernel
theorem dX2_hasRange_23 : decode cX2_hasRange 23 = .ok (.iload_n 1, 1) := by decide +kernel
theorem dX2_hasRange_24 : decode cX2_hasRange 24 = .ok (.iaload, 1) := by decide +kernel
theorem dX2_hasRange_25 : decode cX2_hasRange 25 = .ok (.iload_n 3, 1) := by decide +kernel
theorem dX2_hasRange_26 : decode cX2_hasRange 26 = .ok (.isub, 1) := by decide +kernel
theorem dX2_hasRange_27 : decode cX2_hasRange 27 = .ok (.if_icmp .gt 7, 3) := by decide +kernel
theorem dX2_hasRange_30 : decode cX2_hasRange 30 = .ok (.iconst 1, 1) := by decide +kernel
theorem dX2_hasRange_31 : decode cX2_hasRange 31 = .ok (.goto 4, 3) := by decide +kernel
theorem dX2_hasRange_34 : decode cX2_hasRange 34 = .ok (.iconst 0, 1) := by decide +kernel
theorem dX2_hasRange_35 : decode cX2_hasRange 35 = .ok (.ireturn, 1) := by decide +kernel
end
section
theorem dX3_init_0 : decode cX3_init 0 = .ok (.aload_n 0, 1) := by decide +kernel
theorem dX3_init_1 : decode cX3_init 1 = .ok (.invokespecial 1, 3) := by decide +kernel
theorem dX3_init_4 : decode cX3_init 4 = .ok (.aload_n 0, 1) := by decide +kernel
theorem dX3_init_5 : decode cX3_init 5 = .ok (.bipush 120, 2) := by decide +kernel
theorem dX3_init_7 : decode cX3_init 7 = .ok (.newarray .int, 2) := by decide +kernel
theorem dX3_init_9 : decode cX3_init 9 = .ok (.putfield 9, 3) := by decide +kernel
theorem dX3_init_12 : decode cX3_init 12 = .ok (.aload_n 0, 1) := by decide +kernel
theorem dX3_init_13 : decode cX3_init 13 = .ok (.iconst 0, 1) := by decide +kernel
theorem dX3_init_14 : decode cX3_init 14 = .ok (.putfield 13, 3) := by decide +kernel
theorem dX3_init_17 : decode cX3_init 17 = .ok (.aload_n 0, 1) := by decide +kernel
theorem dX3_init_18 : decode cX3_init 18 = .ok (.iconst 0, 1) := by decide +kernel
theorem dX3_init_19 : decode cX3_init 19 = .ok (.putfield 17, 3) := by decide +kernel
theorem dX3_init_22 : decode cX3_init 22 = .ok (.aload_n 0, 1) := by decide +kernel
theorem dX3_init_23 : decode cX3_init 23 = .ok (.iconst 0, 1) := by decide +kernel
theorem dX3_init_24 : decode cX3_init 24 = .ok (.putfield 20, 3) := by decide +kernel
theorem dX3_init_27 : decode cX3_init 27 = .ok (.aload_n 0, 1) := by decide +kernel
theorem dX3_init_28 : decode cX3_init 28 = .ok (.iconst 0, 1) := by decide +kernel
theorem dX3_init_29 : decode cX3_init 29 = .ok (.putfield 23, 3) := by decide +kernel
theorem dX3_init_32 : decode cX3_init 32 = .ok (.aload_n 0, 1) := by decide +kernel
theorem dX3_init_33 : decode cX3_init 33 = .ok (.iconst 0, 1) := by decide +kernel
theorem dX3_init_34 : decode cX3_init 34 = .ok (.putfield 26, 3) := by decide +kernel
theorem dX3_init_37 : decode cX3_init 37 = .ok (.return_, 1) := by decide +kernel
theorem dX3_hasRoomFor_0 : decode cX3_hasRoomFor 0 = .ok (.iload_n 1, 1) := by decide +kernel
theorem dX3_hasRoomFor_1 : decode cX3_hasRoomFor 1 = .ok (.bipush 120, 2) := by decide +kernel
theorem dX3_hasRoomFor_3 : decode cX3_hasRoomFor 3 = .ok (.aload_n 0, 1) := by decide +kernel
theorem dX3_hasRoomFor_4 : decode cX3_hasRoomFor 4 = .ok (.getfield 13, 3) := by decide +kernel
theorem dX3_hasRoomFor_7 : decode cX3_hasRoomFor 7 = .ok (.isub, 1) := by decide +kernel
theorem dX3_hasRoomFor_8 : decode cX3_hasRoomFor 8 = .ok (.if_icmp .gt 7, 3) := by decide +kernel
theorem dX3_hasRoomFor_11 : decode cX3_hasRoomFor 11 = .ok (.iconst 1, 1) := by decide +kernel
theorem dX3_hasRoomFor_12 : decode cX3_hasRoomFor 12 = .ok (.goto 4, 3) := by decide +kernel
theorem dX3_hasRoomFor_15 : decode cX3_hasRoomFor 15 = .ok (.iconst 0, 1) := by decide +kernel
theorem dX3_hasRoomFor_16 : decode cX3_hasRoomFor 16 = .ok (.ireturn, 1) := by decide +kernel
theorem dX3_add_0 : decode cX3_add 0 = .ok (.aload_n 0, 1) := by decide +kernel
theorem dX3_add_1 : decode cX3_add 1 = .ok (.iconst 1, 1) := by decide +kernel
theorem dX3_add_2 : decode cX3_add 2 = .ok (.invokevirtual 29, 3) := by decide +kernel
theorem dX3_add_5 : decode cX3_add 5 = .ok (.ifCond .eq 23, 3) := by decide +kernel
theorem dX3_add_8 : decode cX3_add 8 = .ok (.aload_n 0, 1) := by decide +kernel
theorem dX3_add_9 : decode cX3_add 9 = .ok (.getfield 9, 3) := by decide +kernel
theorem dX3_add_12 : decode cX3_add 12 = .ok (.aload_n 0, 1) := by decide +kernel
theorem dX3_add_13 : decode cX3_add 13 = .ok (.getfield 13, 3) := by decide +kernel
theorem dX3_add_16 : decode cX3_add 16 = .ok (.iload_n 1, 1) := by decide +kernel
theorem dX3_add_17 : decode cX3_add 17 = .ok (.iastore, 1) := by decide +kernel
theorem dX3_add_18 : decode cX3_add 18 = .ok (.aload_n 0, 1) := by decide +kernel
theorem dX3_add_19 : decode cX3_add 19 = .ok (.dup, 1) := by decide +kernel
theorem dX3_add_20 : decode cX3_add 20 = .ok (.getfield 13, 3) := by decide +kernel
theorem dX3_add_23 : decode cX3_add 23 = .ok (.iconst 1, 1) := by decide +kernel
theorem dX3_add_24 : decode cX3_add 24 = .ok (.iadd, 1) := by decide +kernel
theorem dX3_add_25 : decode cX3_add 25 = .ok (.putfield 13, 3) := by decide +kernel
theorem dX3_add_28 : decode cX3_add 28 = .ok (.return_, 1) := by decide +kernel
theorem dX3_read_0 : decode cX3_read 0 = .ok (.aload_n 0, 1) := by decide +kernel
theorem dX3_read_1 : decode cX3_read 1 = .ok (.iconst 0, 1) := by decide +kernel
theorem dX3_read_2 : decode cX3_read 2 = .ok (.putfield 17, 3) := by decide +kernel
theorem dX3_read_5 : decode cX3_read 5 = .ok (.aload_n 0, 1) := by decide +kernel
theorem dX3_read_6 : decode cX3_read 6 = .ok (.invokevirtual 33, 3) := by decide +kernel
theorem dX3_read_9 : decode cX3_read 9 = .ok (.iconst 1, 1) := by decide +kernel
theorem dX3_read_10 : decode cX3_read 10 = .ok (.istore_n 2, 1) := by decide +kernel
theorem dX3_read_11 : decode cX3_read 11 = .ok (.iload_n 2, 1) := by decide +kernel
theorem dX3_read_12 : decode cX3_read 12 = .ok (.bipush 120, 2) := by decide +kernel
theorem dX3_read_14 : decode cX3_read 14 = .ok (.if_icmp .gt 52, 3) := by decide +kernel
theorem dX3_read_17 : decode cX3_read 17 = .ok (.aload_n 0, 1) := by decide +kernel
theorem dX3_read_18 : decode cX3_read 18 = .ok (.aload_n 1, 1) := by decide +kernel
theorem dX3_read_19 : decode cX3_read 19 = .ok (.invokevirtual 36, 3) := by decide +kernel
theorem dX3_read_22 : decode cX3_read 22 = .ok (.ifCond .ne 10, 3) := by decide +kernel
theorem dX3_read_25 : decode cX3_read 25 = .ok (.iconst (-1), 1) := by decide +kernel
theorem dX3_read_26 : decode cX3_read 26 = .ok (.aload_n 0, 1) := by decide +kernel
theorem dX3_read_27 : decode cX3_read 27 = .ok (.getfield 23, 3) := by decide +kernel
theorem dX3_read_30 : decode cX3_read 30 = .ok (.isub, 1) := by decide +kernel
theorem dX3_read_31 : decode cX3_read 31 = .ok (.ireturn, 1) := by decide +kernel
theorem dX3_read_32 : decode cX3_read 32 = .ok (.aload_n 0, 1) := by decide +kernel
theorem dX3_read_33 : decode cX3_read 33 = .ok (.getfield 20, 3) := by decide +kernel
theorem dX3_read_36 : decode cX3_read 36 = .ok (.ifCond .ne 5, 3) := by decide +kernel
theorem dX3_read_39 : decode cX3_read 39 = .ok (.iload_n 2, 1) := by decide +kernel
theorem dX3_read_40 : decode cX3_read 40 = .ok (.ireturn, 1) := by decide +kernel
theorem dX3_read_41 : decode cX3_read 41 = .ok (.aload_n 0, 1) := by decide +kernel
theorem dX3_read_42 : decode cX3_read 42 = .ok (.getfield 20, 3) := by decide +kernel
theorem dX3_read_45 : decode cX3_read 45 = .ok (.iconst 3, 1) := by decide +kernel
theorem dX3_read_46 : decode cX3_read 46 = .ok (.if_icmp .eq 10, 3) := by decide +kernel
theorem dX3_read_49 : decode cX3_read 49 = .ok (.iconst (-1), 1) := by decide +kernel
theorem dX3_read_50 : decode cX3_read 50 = .ok (.aload_n 0, 1) := by decide +kernel
theorem dX3_read_51 : decode cX3_read 51 = .ok (.getfield 23, 3) := by decide +kernel
theorem dX3_read_54 : decode cX3_read 54 = .ok (.isub, 1) := by decide +kernel
theorem dX3_read_55 : decode cX3_read 55 = .ok (.ireturn, 1) := by decide +kernel
theorem dX3_read_56 : decode cX3_read 56 = .ok (.aload_n 0, 1) := by decide +kernel
theorem dX3_read_57 : decode cX3_read 57 = .ok (.invokevirtual 33, 3) := by decide +kernel
theorem dX3_read_60 : decode cX3_read 60 = .ok (.iinc 2 1, 3) := by decide +kernel
theorem dX3_read_63 : decode cX3_read 63 = .ok (.goto (-52), 3) := by decide +kernel
theorem dX3_read_66 : decode cX3_read 66 = .ok (.iconst (-1), 1) := by decide +kernel
theorem dX3_read_67 : decode cX3_read 67 = .ok (.aload_n 0, 1) := by decide +kernel
theorem dX3_read_68 : decode cX3_read 68 = .ok (.getfield 23, 3) := by decide +kernel
theorem dX3_read_71 : decode cX3_read 71 = .ok (.isub, 1) := by decide +kernel
theorem dX3_read_72 : decode cX3_read 72 = .ok (.ireturn, 1) := by decide +kernel
theorem dX3_readItem_0 : decode cX3_readItem 0 = .ok (.aload_n 0, 1) := by decide +kernel
theorem dX3_readItem_1 : decode cX3_readItem 1 = .ok (.invokevirtual 40, 3) := by decide +kernel
theorem dX3_readItem_4 : decode cX3_readItem 4 = .ok (.istore_n 2, 1) := by decide +kernel
theorem dX3_readItem_5 : decode cX3_readItem 5 = .ok (.iload_n 2, 1) := by decide +kernel
theorem dX3_readItem_6 : decode cX3_readItem 6 = .ok (.ifCond .lt 10, 3) := by decide +kernel
theorem dX3_readItem_9 : decode cX3_readItem 9 = .ok (.aload_n 0, 1) := by decide +kernel
theorem dX3_readItem_10 : decode cX3_readItem 10 = .ok (.aload_n 1, 1) := by decide +kernel
theorem dX3_readItem_11 : decode cX3_readItem 11 = .ok (.iload_n 2, 1) := by decide +kernel
theorem dX3_readItem_12 : decode cX3_readItem 12 = .ok (.invokevirtual 44, 3) := by decide +kernel
theorem dX3_readItem_15 : decode cX3_readItem 15 = .ok (.ireturn, 1) := by decide +kernel
theorem dX3_readItem_16 : decode cX3_readItem 16 = .ok (.aload_n 0, 1) := by decide +kernel
theorem dX3_readItem_17 : decode cX3_readItem 17 = .ok (.ldc 48, 2) := by decide +kernel
theorem dX3_readItem_19 : decode cX3_readItem 19 = .ok (.invokevirtual 50, 3) := by decide +kernel
theorem dX3_readItem_22 : decode cX3_readItem 22 = .ok (.ifCond .eq 15, 3) := by decide +kernel
theorem dX3_readItem_25 : decode cX3_readItem 25 = .ok (.aload_n 0, 1) := by decide +kernel
theorem dX3_readItem_26 : decode cX3_readItem 26 = .ok (.aload_n 1, 1) := by decide +kernel
theorem dX3_readItem_27 : decode cX3_readItem 27 = .ok (.getfield 54, 3) := by decide +kernel
theorem dX3_readItem_30 : decode cX3_readItem 30 = .ok (.iconst 0, 1) := by decide +kernel
theorem dX3_readItem_31 : decode cX3_readItem 31 = .ok (.bipush 40, 2) := by decide +kernel
theorem dX3_readItem_33 : decode cX3_readItem 33 = .ok (.invokevirtual 59, 3) := by decide +kernel
theorem dX3_readItem_36 : decode cX3_readItem 36 = .ok (.ireturn, 1) := by decide +kernel
theorem dX3_readItem_37 : decode cX3_readItem 37 = .ok (.aload_n 0, 1) := by decide +kernel
theorem dX3_readItem_38 : decode cX3_readItem 38 = .ok (.ldc 63, 2) := by decide +kernel
theorem dX3_readItem_40 : decode cX3_readItem 40 = .ok (.invokevirtual 50, 3) := by decide +kernel
theorem dX3_readItem_43 : decode cX3_readItem 43 = .ok (.ifCond .eq 16, 3) := by decide +kernel
theorem dX3_readItem_46 : decode cX3_readItem 46 = .ok (.aload_n 0, 1) := by decide +kernel
theorem dX3_readItem_47 : decode cX3_readItem 47 = .ok (.aload_n 1, 1) := by decide +kernel
theorem dX3_readItem_48 : decode cX3_readItem 48 = .ok (.getfield 65, 3) := by decide +kernel
theorem dX3_readItem_51 : decode cX3_readItem 51 = .ok (.bipush 16, 2) := by decide +kernel
theorem dX3_readItem_53 : decode cX3_readItem 53 = .ok (.bipush 36, 2) := by decide +kernel
theorem dX3_readItem_55 : decode cX3_readItem 55 = .ok (.invokevirtual 59, 3) := by decide +kernel
theorem dX3_readItem_58 : decode cX3_readItem 58 = .ok (.ireturn, 1) := by decide +kernel
theorem dX3_readItem_59 : decode cX3_readItem 59 = .ok (.aload_n 0, 1) := by decide +kernel
theorem dX3_readItem_60 : decode cX3_readItem 60 = .ok (.ldc 68, 2) := by decide +kernel
theorem dX3_readItem_62 : decode cX3_readItem 62 = .ok (.invokevirtual 50, 3) := by decide +kernel
theorem dX3_readItem_65 : decode cX3_readItem 65 = .ok (.ifCond .eq 36, 3) := by decide +kernel
theorem dX3_readItem_68 : decode cX3_readItem 68 = .ok (.aload_n 0, 1) := by decide +kernel
theorem dX3_readItem_69 : decode cX3_readItem 69 = .ok (.invokevirtual 33, 3) := by decide +kernel
theorem dX3_readItem_72 : decode cX3_readItem 72 = .ok (.aload_n 0, 1) := by decide +kernel
theorem dX3_readItem_73 : decode cX3_readItem 73 = .ok (.iconst 0, 1) := by decide +kernel
theorem dX3_readItem_74 : decode cX3_readItem 74 = .ok (.getstatic 70, 3) := by decide +kernel
theorem dX3_readItem_77 : decode cX3_readItem 77 = .ok (.iconst 0, 1) := by decide +kernel
theorem dX3_readItem_78 : decode cX3_readItem 78 = .ok (.iaload, 1) := by decide +kernel
theorem dX3_readItem_79 : decode cX3_readItem 79 = .ok (.invokevirtual 75, 3) := by decide +kernel
theorem dX3_readItem_82 : decode cX3_readItem 82 = .ok (.ifCond .ne 5, 3) := by decide +kernel
theorem dX3_readItem_85 : decode cX3_readItem 85 = .ok (.iconst 0, 1) := by decide +kernel
theorem dX3_readItem_86 : decode cX3_readItem 86 = .ok (.ireturn, 1) := by decide +kernel
theorem dX3_readItem_87 : decode cX3_readItem 87 = .ok (.aload_n 1, 1) := by decide +kernel
theorem dX3_readItem_88 : decode cX3_readItem 88 = .ok (.aload_n 0, 1) := by decide +kernel
theorem dX3_readItem_89 : decode cX3_readItem 89 = .ok (.getfield 26, 3) := by decide +kernel
theorem dX3_readItem_92 : decode cX3_readItem 92 = .ok (.putfield 79, 3) := by decide +kernel
theorem dX3_readItem_95 : decode cX3_readItem 95 = .ok (.aload_n 0, 1) := by decide +kernel
theorem dX3_readItem_96 : decode cX3_readItem 96 = .ok (.invokevirtual 33, 3) := by decide +kernel
theorem dX3_readItem_99 : decode cX3_readItem 99 = .ok (.iconst 1, 1) := by decide +kernel
theorem dX3_readItem_100 : decode cX3_readItem 100 = .ok (.ireturn, 1) := by decide +kernel
theorem dX3_readItem_101 : decode cX3_readItem 101 = .ok (.iconst 0, 1) := by decide +kernel
theorem dX3_readItem_102 : decode cX3_readItem 102 = .ok (.ireturn, 1) := by decide +kernel
theorem dX3_readGuest_0 : decode cX3_readGuest 0 = .ok (.aload_n 1, 1) := by decide +kernel
theorem dX3_readGuest_1 : decode cX3_readGuest 1 = .ok (.invokevirtual 81, 3) := by decide +kernel
theorem dX3_readGuest_4 : decode cX3_readGuest 4 = .ok (.ifCond .eq 5, 3) := by decide +kernel
theorem dX3_readGuest_7 : decode cX3_readGuest 7 = .ok (.iconst 0, 1) := by decide +kernel
theorem dX3_readGuest_8 : decode cX3_readGuest 8 = .ok (.ireturn, 1) := by decide +kernel
theorem dX3_readGuest_9 : decode cX3_readGuest 9 = .ok (.aload_n 0, 1) := by decide +kernel
theorem dX3_readGuest_10 : decode cX3_readGuest 10 = .ok (.invokevirtual 33, 3) := by decide +kernel
theorem dX3_readGuest_13 : decode cX3_readGuest 13 = .ok (.iconst 0, 1) := by decide +kernel
theorem dX3_readGuest_14 : decode cX3_readGuest 14 = .ok (.istore_n 3, 1) := by decide +kernel
theorem dX3_readGuest_15 : decode cX3_readGuest 15 = .ok (.aload_n 0, 1) := by decide +kernel
theorem dX3_readGuest_16 : decode cX3_readGuest 16 = .ok (.ldc 85, 2) := by decide +kernel
theorem dX3_readGuest_18 : decode cX3_readGuest 18 = .ok (.invokevirtual 50, 3) := by decide +kernel
theorem dX3_readGuest_21 : decode cX3_readGuest 21 = .ok (.ifCond .eq 28, 3) := by decide +kernel
theorem dX3_readGuest_24 : decode cX3_readGuest 24 = .ok (.aload_n 0, 1) := by decide +kernel
theorem dX3_readGuest_25 : decode cX3_readGuest 25 = .ok (.invokevirtual 33, 3) := by decide +kernel
theorem dX3_readGuest_28 : decode cX3_readGuest 28 = .ok (.aload_n 0, 1) := by decide +kernel
theorem dX3_readGuest_29 : decode cX3_readGuest 29 = .ok (.iconst 0, 1) := by decide +kernel
theorem dX3_readGuest_30 : decode cX3_readGuest 30 = .ok (.bipush 15, 2) := by decide +kernel
theorem dX3_readGuest_32 : decode cX3_readGuest 32 = .ok (.invokevirtual 75, 3) := by decide +kernel
theorem dX3_readGuest_35 : decode cX3_readGuest 35 = .ok (.ifCond .ne 5, 3) := by decide +kernel
theorem dX3_readGuest_38 : decode cX3_readGuest 38 = .ok (.iconst 0, 1) := by decide +kernel
theorem dX3_readGuest_39 : decode cX3_readGuest 39 = .ok (.ireturn, 1) := by decide +kernel
theorem dX3_readGuest_40 : decode cX3_readGuest 40 = .ok (.aload_n 0, 1) := by decide +kernel
theorem dX3_readGuest_41 : decode cX3_readGuest 41 = .ok (.getfield 26, 3) := by decide +kernel
theorem dX3_readGuest_44 : decode cX3_readGuest 44 = .ok (.istore_n 3, 1) := by decide +kernel
theorem dX3_readGuest_45 : decode cX3_readGuest 45 = .ok (.aload_n 0, 1) := by decide +kernel
theorem dX3_readGuest_46 : decode cX3_readGuest 46 = .ok (.invokevirtual 33, 3) := by decide +kernel
theorem dX3_readGuest_49 : decode cX3_readGuest 49 = .ok (.aload_n 1, 1) := by decide +kernel
theorem dX3_readGuest_50 : decode cX3_readGuest 50 = .ok (.iload_n 2, 1) := by decide +kernel
theorem dX3_readGuest_51 : decode cX3_readGuest 51 = .ok (.iload_n 3, 1) := by decide +kernel
theorem dX3_readGuest_52 : decode cX3_readGuest 52 = .ok (.invokevirtual 87, 3) := by decide +kernel
theorem dX3_readGuest_55 : decode cX3_readGuest 55 = .ok (.istore 4, 2) := by decide +kernel
theorem dX3_readGuest_57 : decode cX3_readGuest 57 = .ok (.aload_n 0, 1) := by decide +kernel
theorem dX3_readGuest_58 : decode cX3_readGuest 58 = .ok (.ldc 91, 2) := by decide +kernel
theorem dX3_readGuest_60 : decode cX3_readGuest 60 = .ok (.aload_n 1, 1) := by decide +kernel
theorem dX3_readGuest_61 : decode cX3_readGuest 61 = .ok (.getfield 93, 3) := by decide +kernel
theorem dX3_readGuest_64 : decode cX3_readGuest 64 = .ok (.iload 4, 2) := by decide +kernel
theorem dX3_readGuest_66 : decode cX3_readGuest 66 = .ok (.iconst 1, 1) := by decide +kernel
theorem dX3_readGuest_67 : decode cX3_readGuest 67 = .ok (.bipush 40, 2) := by decide +kernel
theorem dX3_readGuest_69 : decode cX3_readGuest 69 = .ok (.invokevirtual 95, 3) := by decide +kernel
theorem dX3_readGuest_72 : decode cX3_readGuest 72 = .ok (.ifCond .eq 25, 3) := by decide +kernel
theorem dX3_readGuest_75 : decode cX3_readGuest 75 = .ok (.aload_n 0, 1) := by decide +kernel
theorem dX3_readGuest_76 : decode cX3_readGuest 76 = .ok (.ldc 99, 2) := by decide +kernel
theorem dX3_readGuest_78 : decode cX3_readGuest 78 = .ok (.aload_n 1, 1) := by decide +kernel
theorem dX3_readGuest_79 : decode cX3_readGuest 79 = .ok (.getfield 101, 3) := by decide +kernel
theorem dX3_readGuest_82 : decode cX3_readGuest 82 = .ok (.iload 4, 2) := by decide +kernel
theorem dX3_readGuest_84 : decode cX3_readGuest 84 = .ok (.iconst 0, 1) := by decide +kernel
theorem dX3_readGuest_85 : decode cX3_readGuest 85 = .ok (.bipush 15, 2) := by decide +kernel
theorem dX3_readGuest_87 : decode cX3_readGuest 87 = .ok (.invokevirtual 95, 3) := by decide +kernel
theorem dX3_readGuest_90 : decode cX3_readGuest 90 = .ok (.ifCond .eq 7, 3) := by decide +kernel
theorem dX3_readGuest_93 : decode cX3_readGuest 93 = .ok (.iconst 1, 1) := by decide +kernel
theorem dX3_readGuest_94 : decode cX3_readGuest 94 = .ok (.goto 4, 3) := by decide +kernel
theorem dX3_readGuest_97 : decode cX3_readGuest 97 = .ok (.iconst 0, 1) := by decide +kernel
theorem dX3_readGuest_98 : decode cX3_readGuest 98 = .ok (.ireturn, 1) := by decide +kernel
theorem dX3_readTrait_0 : decode cX3_readTrait 0 = .ok (.aload_n 0, 1) := by decide +kernel
theorem dX3_readTrait_1 : decode cX3_readTrait 1 = .ok (.aload_n 1, 1) := by decide +kernel
theorem dX3_readTrait_2 : decode cX3_readTrait 2 = .ok (.invokevirtual 50, 3) := by decide +kernel
theorem dX3_readTrait_5 : decode cX3_readTrait 5 = .ok (.ifCond .ne 5, 3) := by decide +kernel
theorem dX3_readTrait_8 : decode cX3_readTrait 8 = .ok (.iconst 1, 1) := by decide +kernel
theorem dX3_readTrait_9 : decode cX3_readTrait 9 = .ok (.ireturn, 1) := by decide +kernel
theorem dX3_readTrait_10 : decode cX3_readTrait 10 = .ok (.aload_n 0, 1) := by decide +kernel
theorem dX3_readTrait_11 : decode cX3_readTrait 11 = .ok (.invokevirtual 33, 3) := by decide +kernel
theorem dX3_readTrait_14 : decode cX3_readTrait 14 = .ok (.aload_n 0, 1) := by decide +kernel
theorem dX3_readTrait_15 : decode cX3_readTrait 15 = .ok (.iload 4, 2) := by decide +kernel
theorem dX3_readTrait_17 : decode cX3_readTrait 17 = .ok (.iload 5, 2) := by decide +kernel
theorem dX3_readTrait_19 : decode cX3_readTrait 19 = .ok (.invokevirtual 75, 3) := by decide +kernel
theorem dX3_readTrait_22 : decode cX3_readTrait 22 = .ok (.ifCond .eq 13, 3) := by decide +kernel
theorem dX3_readTrait_25 : decode cX3_readTrait 25 = .ok (.iload_n 3, 1) := by decide +kernel
theorem dX3_readTrait_26 : decode cX3_readTrait 26 = .ok (.ifCond .lt 9, 3) := by decide +kernel
theorem dX3_readTrait_29 : decode cX3_readTrait 29 = .ok (.iload_n 3, 1) := by decide +kernel
theorem dX3_readTrait_30 : decode cX3_readTrait 30 = .ok (.aload_n 2, 1) := by decide +kernel
theorem dX3_readTrait_31 : decode cX3_readTrait 31 = .ok (.arraylength, 1) := by decide +kernel
theorem dX3_readTrait_32 : decode cX3_readTrait 32 = .ok (.if_icmp .lt 5, 3) := by decide +kernel
theorem dX3_readTrait_35 : decode cX3_readTrait 35 = .ok (.iconst 0, 1) := by decide +kernel
theorem dX3_readTrait_36 : decode cX3_readTrait 36 = .ok (.ireturn, 1) := by decide +kernel
theorem dX3_readTrait_37 : decode cX3_readTrait 37 = .ok (.aload_n 2, 1) := by decide +kernel
theorem dX3_readTrait_38 : decode cX3_readTrait 38 = .ok (.iload_n 3, 1) := by decide +kernel
theorem dX3_readTrait_39 : decode cX3_readTrait 39 = .ok (.aload_n 0, 1) := by decide +kernel
theorem dX3_readTrait_40 : decode cX3_readTrait 40 = .ok (.getfield 26, 3) := by decide +kernel
theorem dX3_readTrait_43 : decode cX3_readTrait 43 = .ok (.iastore, 1) := by decide +kernel
theorem dX3_readTrait_44 : decode cX3_readTrait 44 = .ok (.aload_n 0, 1) := by decide +kernel
theorem dX3_readTrait_45 : decode cX3_readTrait 45 = .ok (.invokevirtual 33, 3) := by decide +kernel
theorem dX3_readTrait_48 : decode cX3_readTrait 48 = .ok (.iconst 1, 1) := by decide +kernel
theorem dX3_readTrait_49 : decode cX3_readTrait 49 = .ok (.ireturn, 1) := by decide +kernel
theorem dX3_readPair_0 : decode cX3_readPair 0 = .ok (.aload_n 0, 1) := by decide +kernel
theorem dX3_readPair_1 : decode cX3_readPair 1 = .ok (.invokevirtual 33, 3) := by decide +kernel
theorem dX3_readPair_4 : decode cX3_readPair 4 = .ok (.aload_n 0, 1) := by decide +kernel
theorem dX3_readPair_5 : decode cX3_readPair 5 = .ok (.iconst 0, 1) := by decide +kernel
theorem dX3_readPair_6 : decode cX3_readPair 6 = .ok (.aload_n 1, 1) := by decide +kernel
theorem dX3_readPair_7 : decode cX3_readPair 7 = .ok (.arraylength, 1) := by decide +kernel
theorem dX3_readPair_8 : decode cX3_readPair 8 = .ok (.iconst 1, 1) := by decide +kernel
theorem dX3_readPair_9 : decode cX3_readPair 9 = .ok (.isub, 1) := by decide +kernel
theorem dX3_readPair_10 : decode cX3_readPair 10 = .ok (.invokevirtual 75, 3) := by decide +kernel
theorem dX3_readPair_13 : decode cX3_readPair 13 = .ok (.ifCond .ne 5, 3) := by decide +kernel
theorem dX3_readPair_16 : decode cX3_readPair 16 = .ok (.iconst 0, 1) := by decide +kernel
theorem dX3_readPair_17 : decode cX3_readPair 17 = .ok (.ireturn, 1) := by decide +kernel
theorem dX3_readPair_18 : decode cX3_readPair 18 = .ok (.aload_n 0, 1) := by decide +kernel
theorem dX3_readPair_19 : decode cX3_readPair 19 = .ok (.getfield 26, 3) := by decide +kernel
theorem dX3_readPair_22 : decode cX3_readPair 22 = .ok (.istore 4, 2) := by decide +kernel
theorem dX3_readPair_24 : decode cX3_readPair 24 = .ok (.aload_n 0, 1) := by decide +kernel
theorem dX3_readPair_25 : decode cX3_readPair 25 = .ok (.invokevirtual 33, 3) := by decide +kernel
theorem dX3_readPair_28 : decode cX3_readPair 28 = .ok (.aload_n 0, 1) := by decide +kernel
theorem dX3_readPair_29 : decode cX3_readPair 29 = .ok (.iload_n 2, 1) := by decide +kernel
theorem dX3_readPair_30 : decode cX3_readPair 30 = .ok (.iload_n 3, 1) := by decide +kernel
theorem dX3_readPair_31 : decode cX3_readPair 31 = .ok (.invokevirtual 75, 3) := by decide +kernel
theorem dX3_readPair_34 : decode cX3_readPair 34 = .ok (.ifCond .ne 5, 3) := by decide +kernel
theorem dX3_readPair_37 : decode cX3_readPair 37 = .ok (.iconst 0, 1) := by decide +kernel
theorem dX3_readPair_38 : decode cX3_readPair 38 = .ok (.ireturn, 1) := by decide +kernel
theorem dX3_readPair_39 : decode cX3_readPair 39 = .ok (.aload_n 1, 1) := by decide +kernel
theorem dX3_readPair_40 : decode cX3_readPair 40 = .ok (.iload 4, 2) := by decide +kernel
theorem dX3_readPair_42 : decode cX3_readPair 42 = .ok (.aload_n 0, 1) := by decide +kernel
theorem dX3_readPair_43 : decode cX3_readPair 43 = .ok (.getfield 26, 3) := by decide +kernel
theorem dX3_readPair_46 : decode cX3_readPair 46 = .ok (.iastore, 1) := by decide +kernel
theorem dX3_readPair_47 : decode cX3_readPair 47 = .ok (.aload_n 0, 1) := by decide +kernel
theorem dX3_readPair_48 : decode cX3_readPair 48 = .ok (.invokevirtual 33, 3) := by decide +kernel
theorem dX3_readPair_51 : decode cX3_readPair 51 = .ok (.iconst 1, 1) := by decide +kernel
theorem dX3_readPair_52 : decode cX3_readPair 52 = .ok (.ireturn, 1) := by decide +kernel
theorem dX3_takeNumber_0 : decode cX3_takeNumber 0 = .ok (.aload_n 0, 1) := by decide +kernel
theorem dX3_takeNumber_1 : decode cX3_takeNumber 1 = .ok (.getfield 20, 3) := by decide +kernel
theorem dX3_takeNumber_4 : decode cX3_takeNumber 4 = .ok (.iconst 2, 1) := by decide +kernel
theorem dX3_takeNumber_5 : decode cX3_takeNumber 5 = .ok (.if_icmp .ne 23, 3) := by decide +kernel
theorem dX3_takeNumber_8 : decode cX3_takeNumber 8 = .ok (.aload_n 0, 1) := by decide +kernel
theorem dX3_takeNumber_9 : decode cX3_takeNumber 9 = .ok (.getfield 26, 3) := by decide +kernel
theorem dX3_takeNumber_12 : decode cX3_takeNumber 12 = .ok (.iload_n 1, 1) := by decide +kernel
theorem dX3_takeNumber_13 : decode cX3_takeNumber 13 = .ok (.if_icmp .lt 15, 3) := by decide +kernel
theorem dX3_takeNumber_16 : decode cX3_takeNumber 16 = .ok (.aload_n 0, 1) := by decide +kernel
theorem dX3_takeNumber_17 : decode cX3_takeNumber 17 = .ok (.getfield 26, 3) := by decide +kernel
theorem dX3_takeNumber_20 : decode cX3_takeNumber 20 = .ok (.iload_n 2, 1) := by decide +kernel
theorem dX3_takeNumber_21 : decode cX3_takeNumber 21 = .ok (.if_icmp .gt 7, 3) := by decide +kernel
theorem dX3_takeNumber_24 : decode cX3_takeNumber 24 = .ok (.iconst 1, 1) := by decide +kernel
theorem dX3_takeNumber_25 : decode cX3_takeNumber 25 = .ok (.goto 4, 3) := by decide +kernel
theorem dX3_takeNumber_28 : decode cX3_takeNumber 28 = .ok (.iconst 0, 1) := by decide +kernel
theorem dX3_takeNumber_29 : decode cX3_takeNumber 29 = .ok (.ireturn, 1) := by decide +kernel
theorem dX3_kindTold_0 : decode cX3_kindTold 0 = .ok (.iconst 0, 1) := by decide +kernel
theorem dX3_kindTold_1 : decode cX3_kindTold 1 = .ok (.istore_n 1, 1) := by decide +kernel
theorem dX3_kindTold_2 : decode cX3_kindTold 2 = .ok (.iload_n 1, 1) := by decide +kernel
theorem dX3_kindTold_3 : decode cX3_kindTold 3 = .ok (.bipush 7, 2) := by decide +kernel
theorem dX3_kindTold_5 : decode cX3_kindTold 5 = .ok (.if_icmp .ge 22, 3) := by decide +kernel
theorem dX3_kindTold_8 : decode cX3_kindTold 8 = .ok (.aload_n 0, 1) := by decide +kernel
theorem dX3_kindTold_9 : decode cX3_kindTold 9 = .ok (.iload_n 1, 1) := by decide +kernel
theorem dX3_kindTold_10 : decode cX3_kindTold 10 = .ok (.invokestatic 106, 3) := by decide +kernel
theorem dX3_kindTold_13 : decode cX3_kindTold 13 = .ok (.invokevirtual 50, 3) := by decide +kernel
theorem dX3_kindTold_16 : decode cX3_kindTold 16 = .ok (.ifCond .eq 5, 3) := by decide +kernel
theorem dX3_kindTold_19 : decode cX3_kindTold 19 = .ok (.iload_n 1, 1) := by decide +kernel
theorem dX3_kindTold_20 : decode cX3_kindTold 20 = .ok (.ireturn, 1) := by decide +kernel
theorem dX3_kindTold_21 : decode cX3_kindTold 21 = .ok (.iinc 1 1, 3) := by decide +kernel
theorem dX3_kindTold_24 : decode cX3_kindTold 24 = .ok (.goto (-22), 3) := by decide +kernel
theorem dX3_kindTold_27 : decode cX3_kindTold 27 = .ok (.iconst (-1), 1) := by decide +kernel
theorem dX3_kindTold_28 : decode cX3_kindTold 28 = .ok (.ireturn, 1) := by decide +kernel
theorem dX3_wordOf_0 : decode cX3_wordOf 0 = .ok (.iload_n 0, 1) := by decide +kernel
theorem dX3_wordOf_1 : decode cX3_wordOf 1 = .ok (.tableswitch 57 1 6 #[39, 42, 45, 48, 51, 54], 39) := by decide +kernel
theorem dX3_wordOf_40 : decode cX3_wordOf 40 = .ok (.ldc 110, 2) := by decide +kernel
theorem dX3_wordOf_42 : decode cX3_wordOf 42 = .ok (.areturn, 1) := by decide +kernel
theorem dX3_wordOf_43 : decode cX3_wordOf 43 = .ok (.ldc 112, 2) := by decide +kernel
theorem dX3_wordOf_45 : decode cX3_wordOf 45 = .ok (.areturn, 1) := by decide +kernel
theorem dX3_wordOf_46 : decode cX3_wordOf 46 = .ok (.ldc 114, 2) := by decide +kernel
theorem dX3_wordOf_48 : decode cX3_wordOf 48 = .ok (.areturn, 1) := by decide +kernel
theorem dX3_wordOf_49 : decode cX3_wordOf 49 = .ok (.ldc 116, 2) := by decide +kernel
theorem dX3_wordOf_51 : decode cX3_wordOf 51 = .ok (.areturn, 1) := by decide +kernel
theorem dX3_wordOf_52 : decode cX3_wordOf 52 = .ok (.ldc 118, 2) := by decide +kernel
theorem dX3_wordOf_54 : decode cX3_wordOf 54 = .ok (.areturn, 1) := by decide +kernel
theorem dX3_wordOf_55 : decode cX3_wordOf 55 = .ok (.ldc 120, 2) := by decide +kernel
theorem dX3_wordOf_57 : decode cX3_wordOf 57 = .ok (.areturn, 1) := by decide +kernel
theorem dX3_wordOf_58 : decode cX3_wordOf 58 = .ok (.ldc 122, 2) := by decide +kernel
theorem dX3_wordOf_60 : decode cX3_wordOf 60 = .ok (.areturn, 1) := by decide +kernel
theorem dX3_isWord_0 : decode cX3_isWord 0 = .ok (.aload_n 0, 1) := by decide +kernel
theorem dX3_isWord_1 : decode cX3_isWord 1 = .ok (.getfield 20, 3) := by decide +kernel
theorem dX3_isWord_4 : decode cX3_isWord 4 = .ok (.iconst 1, 1) := by decide +kernel
theorem dX3_isWord_5 : decode cX3_isWord 5 = .ok (.if_icmp .ne 19, 3) := by decide +kernel
theorem dX3_isWord_8 : decode cX3_isWord 8 = .ok (.aload_n 0, 1) := by decide +kernel
theorem dX3_isWord_9 : decode cX3_isWord 9 = .ok (.getfield 17, 3) := by decide +kernel
theorem dX3_isWord_12 : decode cX3_isWord 12 = .ok (.aload_n 0, 1) := by decide +kernel
theorem dX3_isWord_13 : decode cX3_isWord 13 = .ok (.getfield 23, 3) := by decide +kernel
theorem dX3_isWord_16 : decode cX3_isWord 16 = .ok (.isub, 1) := by decide +kernel
theorem dX3_isWord_17 : decode cX3_isWord 17 = .ok (.aload_n 1, 1) := by decide +kernel
theorem dX3_isWord_18 : decode cX3_isWord 18 = .ok (.invokevirtual 124, 3) := by decide +kernel
theorem dX3_isWord_21 : decode cX3_isWord 21 = .ok (.if_icmp .eq 5, 3) := by decide +kernel
theorem dX3_isWord_24 : decode cX3_isWord 24 = .ok (.iconst 0, 1) := by decide +kernel
theorem dX3_isWord_25 : decode cX3_isWord 25 = .ok (.ireturn, 1) := by decide +kernel
theorem dX3_isWord_26 : decode cX3_isWord 26 = .ok (.iconst 0, 1) := by decide +kernel
theorem dX3_isWord_27 : decode cX3_isWord 27 = .ok (.istore_n 2, 1) := by decide +kernel
theorem dX3_isWord_28 : decode cX3_isWord 28 = .ok (.iload_n 2, 1) := by decide +kernel
theorem dX3_isWord_29 : decode cX3_isWord 29 = .ok (.aload_n 1, 1) := by decide +kernel
theorem dX3_isWord_30 : decode cX3_isWord 30 = .ok (.invokevirtual 124, 3) := by decide +kernel
theorem dX3_isWord_33 : decode cX3_isWord 33 = .ok (.if_icmp .ge 30, 3) := by decide +kernel
theorem dX3_isWord_36 : decode cX3_isWord 36 = .ok (.aload_n 0, 1) := by decide +kernel
theorem dX3_isWord_37 : decode cX3_isWord 37 = .ok (.getfield 9, 3) := by decide +kernel
theorem dX3_isWord_40 : decode cX3_isWord 40 = .ok (.aload_n 0, 1) := by decide +kernel
theorem dX3_isWord_41 : decode cX3_isWord 41 = .ok (.getfield 23, 3) := by decide +kernel
theorem dX3_isWord_44 : decode cX3_isWord 44 = .ok (.iload_n 2, 1) := by decide +kernel
theorem dX3_isWord_45 : decode cX3_isWord 45 = .ok (.iadd, 1) := by decide +kernel
theorem dX3_isWord_46 : decode cX3_isWord 46 = .ok (.iaload, 1) := by decide +kernel
theorem dX3_isWord_47 : decode cX3_isWord 47 = .ok (.aload_n 1, 1) := by decide +kernel
theorem dX3_isWord_48 : decode cX3_isWord 48 = .ok (.iload_n 2, 1) := by decide +kernel
theorem dX3_isWord_49 : decode cX3_isWord 49 = .ok (.invokevirtual 128, 3) := by decide +kernel
theorem dX3_isWord_52 : decode cX3_isWord 52 = .ok (.if_icmp .eq 5, 3) := by decide +kernel
theorem dX3_isWord_55 : decode cX3_isWord 55 = .ok (.iconst 0, 1) := by decide +kernel
theorem dX3_isWord_56 : decode cX3_isWord 56 = .ok (.ireturn, 1) := by decide +kernel
theorem dX3_isWord_57 : decode cX3_isWord 57 = .ok (.iinc 2 1, 3) := by decide +kernel
theorem dX3_isWord_60 : decode cX3_isWord 60 = .ok (.goto (-32), 3) := by decide +kernel
theorem dX3_isWord_63 : decode cX3_isWord 63 = .ok (.iconst 1, 1) := by decide +kernel
theorem dX3_isWord_64 : decode cX3_isWord 64 = .ok (.ireturn, 1) := by decide +kernel
theorem dX3_next_0 : decode cX3_next 0 = .ok (.aload_n 0, 1) := by decide +kernel
theorem dX3_next_1 : decode cX3_next 1 = .ok (.getfield 17, 3) := by decide +kernel
theorem dX3_next_4 : decode cX3_next 4 = .ok (.aload_n 0, 1) := by decide +kernel
theorem dX3_next_5 : decode cX3_next 5 = .ok (.getfield 13, 3) := by decide +kernel
theorem dX3_next_8 : decode cX3_next 8 = .ok (.if_icmp .ge 30, 3) := by decide +kernel
theorem dX3_next_11 : decode cX3_next 11 = .ok (.aload_n 0, 1) := by decide +kernel
theorem dX3_next_12 : decode cX3_next 12 = .ok (.getfield 9, 3) := by decide +kernel
theorem dX3_next_15 : decode cX3_next 15 = .ok (.aload_n 0, 1) := by decide +kernel
theorem dX3_next_16 : decode cX3_next 16 = .ok (.getfield 17, 3) := by decide +kernel
theorem dX3_next_19 : decode cX3_next 19 = .ok (.iaload, 1) := by decide +kernel
theorem dX3_next_20 : decode cX3_next 20 = .ok (.bipush 32, 2) := by decide +kernel
theorem dX3_next_22 : decode cX3_next 22 = .ok (.if_icmp .ne 16, 3) := by decide +kernel
theorem dX3_next_25 : decode cX3_next 25 = .ok (.aload_n 0, 1) := by decide +kernel
theorem dX3_next_26 : decode cX3_next 26 = .ok (.dup, 1) := by decide +kernel
theorem dX3_next_27 : decode cX3_next 27 = .ok (.getfield 17, 3) := by decide +kernel
theorem dX3_next_30 : decode cX3_next 30 = .ok (.iconst 1, 1) := by decide +kernel
theorem dX3_next_31 : decode cX3_next 31 = .ok (.iadd, 1) := by decide +kernel
theorem dX3_next_32 : decode cX3_next 32 = .ok (.putfield 17, 3) := by decide +kernel
theorem dX3_next_35 : decode cX3_next 35 = .ok (.goto (-35), 3) := by decide +kernel
theorem dX3_next_38 : decode cX3_next 38 = .ok (.aload_n 0, 1) := by decide +kernel
theorem dX3_next_39 : decode cX3_next 39 = .ok (.aload_n 0, 1) := by decide +kernel
theorem dX3_next_40 : decode cX3_next 40 = .ok (.getfield 17, 3) := by decide +kernel
theorem dX3_next_43 : decode cX3_next 43 = .ok (.putfield 23, 3) := by decide +kernel
theorem dX3_next_46 : decode cX3_next 46 = .ok (.aload_n 0, 1) := by decide +kernel
theorem dX3_next_47 : decode cX3_next 47 = .ok (.getfield 17, 3) := by decide +kernel
theorem dX3_next_50 : decode cX3_next 50 = .ok (.aload_n 0, 1) := by decide +kernel
theorem dX3_next_51 : decode cX3_next 51 = .ok (.getfield 13, 3) := by decide +kernel
theorem dX3_next_54 : decode cX3_next 54 = .ok (.if_icmp .lt 11, 3) := by decide +kernel
theorem dX3_next_57 : decode cX3_next 57 = .ok (.aload_n 0, 1) := by decide +kernel
theorem dX3_next_58 : decode cX3_next 58 = .ok (.iconst 0, 1) := by decide +kernel
theorem dX3_next_59 : decode cX3_next 59 = .ok (.putfield 20, 3) := by decide +kernel
theorem dX3_next_62 : decode cX3_next 62 = .ok (.goto 193, 3) := by decide +kernel
theorem dX3_next_65 : decode cX3_next 65 = .ok (.aload_n 0, 1) := by decide +kernel
theorem dX3_next_66 : decode cX3_next 66 = .ok (.getfield 9, 3) := by decide +kernel
theorem dX3_next_69 : decode cX3_next 69 = .ok (.aload_n 0, 1) := by decide +kernel
theorem dX3_next_70 : decode cX3_next 70 = .ok (.getfield 17, 3) := by decide +kernel
theorem dX3_next_73 : decode cX3_next 73 = .ok (.iaload, 1) := by decide +kernel
theorem dX3_next_74 : decode cX3_next 74 = .ok (.invokestatic 132, 3) := by decide +kernel
theorem dX3_next_77 : decode cX3_next 77 = .ok (.ifCond .eq 47, 3) := by decide +kernel
theorem dX3_next_80 : decode cX3_next 80 = .ok (.aload_n 0, 1) := by decide +kernel
theorem dX3_next_81 : decode cX3_next 81 = .ok (.iconst 1, 1) := by decide +kernel
theorem dX3_next_82 : decode cX3_next 82 = .ok (.putfield 20, 3) := by decide +kernel
theorem dX3_next_85 : decode cX3_next 85 = .ok (.aload_n 0, 1) := by decide +kernel
theorem dX3_next_86 : decode cX3_next 86 = .ok (.getfield 17, 3) := by decide +kernel
theorem dX3_next_89 : decode cX3_next 89 = .ok (.aload_n 0, 1) := by decide +kernel
theorem dX3_next_90 : decode cX3_next 90 = .ok (.getfield 13, 3) := by decide +kernel
theorem dX3_next_93 : decode cX3_next 93 = .ok (.if_icmp .ge 162, 3) := by decide +kernel
theorem dX3_next_96 : decode cX3_next 96 = .ok (.aload_n 0, 1) := by decide +kernel
theorem dX3_next_97 : decode cX3_next 97 = .ok (.getfield 9, 3) := by decide +kernel
theorem dX3_next_100 : decode cX3_next 100 = .ok (.aload_n 0, 1) := by decide +kernel
theorem dX3_next_101 : decode cX3_next 101 = .ok (.getfield 17, 3) := by decide +kernel
theorem dX3_next_104 : decode cX3_next 104 = .ok (.iaload, 1) := by decide +kernel
theorem dX3_next_105 : decode cX3_next 105 = .ok (.invokestatic 132, 3) := by decide +kernel
theorem dX3_next_108 : decode cX3_next 108 = .ok (.ifCond .eq 147, 3) := by decide +kernel
theorem dX3_next_111 : decode cX3_next 111 = .ok (.aload_n 0, 1) := by decide +kernel
theorem dX3_next_112 : decode cX3_next 112 = .ok (.dup, 1) := by decide +kernel
theorem dX3_next_113 : decode cX3_next 113 = .ok (.getfield 17, 3) := by decide +kernel
theorem dX3_next_116 : decode cX3_next 116 = .ok (.iconst 1, 1) := by decide +kernel
theorem dX3_next_117 : decode cX3_next 117 = .ok (.iadd, 1) := by decide +kernel
theorem dX3_next_118 : decode cX3_next 118 = .ok (.putfield 17, 3) := by decide +kernel
theorem dX3_next_121 : decode cX3_next 121 = .ok (.goto (-36), 3) := by decide +kernel
theorem dX3_next_124 : decode cX3_next 124 = .ok (.aload_n 0, 1) := by decide +kernel
theorem dX3_next_125 : decode cX3_next 125 = .ok (.getfield 9, 3) := by decide +kernel
theorem dX3_next_128 : decode cX3_next 128 = .ok (.aload_n 0, 1) := by decide +kernel
theorem dX3_next_129 : decode cX3_next 129 = .ok (.getfield 17, 3) := by decide +kernel
theorem dX3_next_132 : decode cX3_next 132 = .ok (.iaload, 1) := by decide +kernel
theorem dX3_next_133 : decode cX3_next 133 = .ok (.invokestatic 135, 3) := by decide +kernel
theorem dX3_next_136 : decode cX3_next 136 = .ok (.ifCond .eq 82, 3) := by decide +kernel
theorem dX3_next_139 : decode cX3_next 139 = .ok (.aload_n 0, 1) := by decide +kernel
theorem dX3_next_140 : decode cX3_next 140 = .ok (.iconst 2, 1) := by decide +kernel
theorem dX3_next_141 : decode cX3_next 141 = .ok (.putfield 20, 3) := by decide +kernel
theorem dX3_next_144 : decode cX3_next 144 = .ok (.aload_n 0, 1) := by decide +kernel
theorem dX3_next_145 : decode cX3_next 145 = .ok (.iconst 0, 1) := by decide +kernel
theorem dX3_next_146 : decode cX3_next 146 = .ok (.putfield 26, 3) := by decide +kernel
theorem dX3_next_149 : decode cX3_next 149 = .ok (.aload_n 0, 1) := by decide +kernel
theorem dX3_next_150 : decode cX3_next 150 = .ok (.getfield 17, 3) := by decide +kernel
theorem dX3_next_153 : decode cX3_next 153 = .ok (.aload_n 0, 1) := by decide +kernel
theorem dX3_next_154 : decode cX3_next 154 = .ok (.getfield 13, 3) := by decide +kernel
theorem dX3_next_157 : decode cX3_next 157 = .ok (.if_icmp .ge 98, 3) := by decide +kernel
theorem dX3_next_160 : decode cX3_next 160 = .ok (.aload_n 0, 1) := by decide +kernel
theorem dX3_next_161 : decode cX3_next 161 = .ok (.getfield 9, 3) := by decide +kernel
theorem dX3_next_164 : decode cX3_next 164 = .ok (.aload_n 0, 1) := by decide +kernel
theorem dX3_next_165 : decode cX3_next 165 = .ok (.getfield 17, 3) := by decide +kernel
theorem dX3_next_168 : decode cX3_next 168 = .ok (.iaload, 1) := by decide +kernel
theorem dX3_next_169 : decode cX3_next 169 = .ok (.invokestatic 135, 3) := by decide +kernel
theorem dX3_next_172 : decode cX3_next 172 = .ok (.ifCond .eq 83, 3) := by decide +kernel
theorem dX3_next_175 : decode cX3_next 175 = .ok (.aload_n 0, 1) := by decide +kernel
theorem dX3_next_176 : decode cX3_next 176 = .ok (.bipush 10, 2) := by decide +kernel
theorem dX3_next_178 : decode cX3_next 178 = .ok (.aload_n 0, 1) := by decide +kernel
theorem dX3_next_179 : decode cX3_next 179 = .ok (.getfield 26, 3) := by decide +kernel
theorem dX3_next_182 : decode cX3_next 182 = .ok (.imul, 1) := by decide +kernel
theorem dX3_next_183 : decode cX3_next 183 = .ok (.aload_n 0, 1) := by decide +kernel
theorem dX3_next_184 : decode cX3_next 184 = .ok (.getfield 9, 3) := by decide +kernel
theorem dX3_next_187 : decode cX3_next 187 = .ok (.aload_n 0, 1) := by decide +kernel
theorem dX3_next_188 : decode cX3_next 188 = .ok (.getfield 17, 3) := by decide +kernel
theorem dX3_next_191 : decode cX3_next 191 = .ok (.iaload, 1) := by decide +kernel
theorem dX3_next_192 : decode cX3_next 192 = .ok (.iadd, 1) := by decide +kernel
theorem dX3_next_193 : decode cX3_next 193 = .ok (.bipush 48, 2) := by decide +kernel
theorem dX3_next_195 : decode cX3_next 195 = .ok (.isub, 1) := by decide +kernel
theorem dX3_next_196 : decode cX3_next 196 = .ok (.sipush 10000, 3) := by decide +kernel
theorem dX3_next_199 : decode cX3_next 199 = .ok (.invokestatic 138, 3) := by decide +kernel
theorem dX3_next_202 : decode cX3_next 202 = .ok (.putfield 26, 3) := by decide +kernel
theorem dX3_next_205 : decode cX3_next 205 = .ok (.aload_n 0, 1) := by decide +kernel
theorem dX3_next_206 : decode cX3_next 206 = .ok (.dup, 1) := by decide +kernel
theorem dX3_next_207 : decode cX3_next 207 = .ok (.getfield 17, 3) := by decide +kernel
theorem dX3_next_210 : decode cX3_next 210 = .ok (.iconst 1, 1) := by decide +kernel
theorem dX3_next_211 : decode cX3_next 211 = .ok (.iadd, 1) := by decide +kernel
theorem dX3_next_212 : decode cX3_next 212 = .ok (.putfield 17, 3) := by decide +kernel
theorem dX3_next_215 : decode cX3_next 215 = .ok (.goto (-66), 3) := by decide +kernel
theorem dX3_next_218 : decode cX3_next 218 = .ok (.aload_n 0, 1) := by decide +kernel
theorem dX3_next_219 : decode cX3_next 219 = .ok (.getfield 9, 3) := by decide +kernel
theorem dX3_next_222 : decode cX3_next 222 = .ok (.aload_n 0, 1) := by decide +kernel
theorem dX3_next_223 : decode cX3_next 223 = .ok (.getfield 17, 3) := by decide +kernel
theorem dX3_next_226 : decode cX3_next 226 = .ok (.iaload, 1) := by decide +kernel
theorem dX3_next_227 : decode cX3_next 227 = .ok (.bipush 59, 2) := by decide +kernel
theorem dX3_next_229 : decode cX3_next 229 = .ok (.if_icmp .ne 21, 3) := by decide +kernel
theorem dX3_next_232 : decode cX3_next 232 = .ok (.aload_n 0, 1) := by decide +kernel
theorem dX3_next_233 : decode cX3_next 233 = .ok (.iconst 3, 1) := by decide +kernel
theorem dX3_next_234 : decode cX3_next 234 = .ok (.putfield 20, 3) := by decide +kernel
theorem dX3_next_237 : decode cX3_next 237 = .ok (.aload_n 0, 1) := by decide +kernel
theorem dX3_next_238 : decode cX3_next 238 = .ok (.dup, 1) := by decide +kernel
theorem dX3_next_239 : decode cX3_next 239 = .ok (.getfield 17, 3) := by decide +kernel
theorem dX3_next_242 : decode cX3_next 242 = .ok (.iconst 1, 1) := by decide +kernel
theorem dX3_next_243 : decode cX3_next 243 = .ok (.iadd, 1) := by decide +kernel
theorem dX3_next_244 : decode cX3_next 244 = .ok (.putfield 17, 3) := by decide +kernel
theorem dX3_next_247 : decode cX3_next 247 = .ok (.goto 8, 3) := by decide +kernel
theorem dX3_next_250 : decode cX3_next 250 = .ok (.aload_n 0, 1) := by decide +kernel
theorem dX3_next_251 : decode cX3_next 251 = .ok (.iconst 4, 1) := by decide +kernel
theorem dX3_next_252 : decode cX3_next 252 = .ok (.putfield 20, 3) := by decide +kernel
theorem dX3_next_255 : decode cX3_next 255 = .ok (.return_, 1) := by decide +kernel
theorem dX3_isLetter_0 : decode cX3_isLetter 0 = .ok (.iload_n 0, 1) := by decide +kernel
theorem dX3_isLetter_1 : decode cX3_isLetter 1 = .ok (.bipush 97, 2) := by decide +kernel
theorem dX3_isLetter_3 : decode cX3_isLetter 3 = .ok (.if_icmp .lt 13, 3) := by decide +kernel
theorem dX3_isLetter_6 : decode cX3_isLetter 6 = .ok (.iload_n 0, 1) := by decide +kernel
theorem dX3_isLetter_7 : decode cX3_isLetter 7 = .ok (.bipush 122, 2) := by decide +kernel
theorem dX3_isLetter_9 : decode cX3_isLetter 9 = .ok (.if_icmp .gt 7, 3) := by decide +kernel
theorem dX3_isLetter_12 : decode cX3_isLetter 12 = .ok (.iconst 1, 1) := by decide +kernel
theorem dX3_isLetter_13 : decode cX3_isLetter 13 = .ok (.goto 4, 3) := by decide +kernel
theorem dX3_isLetter_16 : decode cX3_isLetter 16 = .ok (.iconst 0, 1) := by decide +kernel
theorem dX3_isLetter_17 : decode cX3_isLetter 17 = .ok (.ireturn, 1) := by decide +kernel
theorem dX3_isDigit_0 : decode cX3_isDigit 0 = .ok (.iload_n 0, 1) := by decide +kernel
theorem dX3_isDigit_1 : decode cX3_isDigit 1 = .ok (.bipush 48, 2) := by decide +kernel
theorem dX3_isDigit_3 : decode cX3_isDigit 3 = .ok (.if_icmp .lt 13, 3) := by decide +kernel
theorem dX3_isDigit_6 : decode cX3_isDigit 6 = .ok (.iload_n 0, 1) := by decide +kernel
theorem dX3_isDigit_7 : decode cX3_isDigit 7 = .ok (.bipush 57, 2) := by decide +kernel
theorem dX3_isDigit_9 : decode cX3_isDigit 9 = .ok (.if_icmp .gt 7, 3) := by decide +kernel
theorem dX3_isDigit_12 : decode cX3_isDigit 12 = .ok (.iconst 1, 1) := by decide +kernel
theorem dX3_isDigit_13 : decode cX3_isDigit 13 = .ok (.goto 4, 3) := by decide +kernel
theorem dX3_isDigit_16 : decode cX3_isDigit 16 = .ok (.iconst 0, 1) := by decide +kernel
theorem dX3_isDigit_17 : decode cX3_isDigit 17 = .ok (.ireturn, 1) := by decide +kernel
theorem dJ6_bitCount_0f7a4_0 : decode cJ6_bitCount_0f7a4 0 = .ok (.iload_n 0, 1) := by decide +kernel
theorem dJ6_bitCount_0f7a4_1 : decode cJ6_bitCount_0f7a4 1 = .ok (.iload_n 0, 1) := by decide +kernel
theorem dJ6_bitCount_0f7a4_2 : decode cJ6_bitCount_0f7a4 2 = .ok (.iconst 1, 1) := by decide +kernel
theorem dJ6_bitCount_0f7a4_3 : decode cJ6_bitCount_0f7a4 3 = .ok (.iushr, 1) := by decide +kernel
theorem dJ6_bitCount_0f7a4_4 : decode cJ6_bitCount_0f7a4 4 = .ok (.ldc_w 265, 3) := by decide +kernel
theorem dJ6_bitCount_0f7a4_7 : decode cJ6_bitCount_0f7a4 7 = .ok (.iand, 1) := by decide +kernel
theorem dJ6_bitCount_0f7a4_8 : decode cJ6_bitCount_0f7a4 8 = .ok (.isub, 1) := by decide +kernel
theorem dJ6_bitCount_0f7a4_9 : decode cJ6_bitCount_0f7a4 9 = .ok (.istore_n 0, 1) := by decide +kernel
theorem dJ6_bitCount_0f7a4_10 : decode cJ6_bitCount_0f7a4 10 = .ok (.iload_n 0, 1) := by decide +kernel
theorem dJ6_bitCount_0f7a4_11 : decode cJ6_bitCount_0f7a4 11 = .ok (.ldc_w 266, 3) := by decide +kernel
theorem dJ6_bitCount_0f7a4_14 : decode cJ6_bitCount_0f7a4 14 = .ok (.iand, 1) := by decide +kernel
theorem dJ6_bitCount_0f7a4_15 : decode cJ6_bitCount_0f7a4 15 = .ok (.iload_n 0, 1) := by decide +kernel
theorem dJ6_bitCount_0f7a4_16 : decode cJ6_bitCount_0f7a4 16 = .ok (.iconst 2, 1) := by decide +kernel
theorem dJ6_bitCount_0f7a4_17 : decode cJ6_bitCount_0f7a4 17 = .ok (.iushr, 1) := by decide +kernel
theorem dJ6_bitCount_0f7a4_18 : decode cJ6_bitCount_0f7a4 18 = .ok (.ldc_w 266, 3) := by decide +kernel
theorem dJ6_bitCount_0f7a4_21 : decode cJ6_bitCount_0f7a4 21 = .ok (.iand, 1) := by decide +kernel
theorem dJ6_bitCount_0f7a4_22 : decode cJ6_bitCount_0f7a4 22 = .ok (.iadd, 1) := by decide +kernel
theorem dJ6_bitCount_0f7a4_23 : decode cJ6_bitCount_0f7a4 23 = .ok (.istore_n 0, 1) := by decide +kernel
theorem dJ6_bitCount_0f7a4_24 : decode cJ6_bitCount_0f7a4 24 = .ok (.iload_n 0, 1) := by decide +kernel
theorem dJ6_bitCount_0f7a4_25 : decode cJ6_bitCount_0f7a4 25 = .ok (.iload_n 0, 1) := by decide +kernel
theorem dJ6_bitCount_0f7a4_26 : decode cJ6_bitCount_0f7a4 26 = .ok (.iconst 4, 1) := by decide +kernel
theorem dJ6_bitCount_0f7a4_27 : decode cJ6_bitCount_0f7a4 27 = .ok (.iushr, 1) := by decide +kernel
theorem dJ6_bitCount_0f7a4_28 : decode cJ6_bitCount_0f7a4 28 = .ok (.iadd, 1) := by decide +kernel
theorem dJ6_bitCount_0f7a4_29 : decode cJ6_bitCount_0f7a4 29 = .ok (.ldc_w 267, 3) := by decide +kernel
theorem dJ6_bitCount_0f7a4_32 : decode cJ6_bitCount_0f7a4 32 = .ok (.iand, 1) := by decide +kernel
theorem dJ6_bitCount_0f7a4_33 : decode cJ6_bitCount_0f7a4 33 = .ok (.istore_n 0, 1) := by decide +kernel
theorem dJ6_bitCount_0f7a4_34 : decode cJ6_bitCount_0f7a4 34 = .ok (.iload_n 0, 1) := by decide +kernel
theorem dJ6_bitCount_0f7a4_35 : decode cJ6_bitCount_0f7a4 35 = .ok (.iload_n 0, 1) := by decide +kernel
theorem dJ6_bitCount_0f7a4_36 : decode cJ6_bitCount_0f7a4 36 = .ok (.bipush 8, 2) := by decide +kernel
theorem dJ6_bitCount_0f7a4_38 : decode cJ6_bitCount_0f7a4 38 = .ok (.iushr, 1) := by decide +kernel
theorem dJ6_bitCount_0f7a4_39 : decode cJ6_bitCount_0f7a4 39 = .ok (.iadd, 1) := by decide +kernel
theorem dJ6_bitCount_0f7a4_40 : decode cJ6_bitCount_0f7a4 40 = .ok (.istore_n 0, 1) := by decide +kernel
theorem dJ6_bitCount_0f7a4_41 : decode cJ6_bitCount_0f7a4 41 = .ok (.iload_n 0, 1) := by decide +kernel
theorem dJ6_bitCount_0f7a4_42 : decode cJ6_bitCount_0f7a4 42 = .ok (.iload_n 0, 1) := by decide +kernel
theorem dJ6_bitCount_0f7a4_43 : decode cJ6_bitCount_0f7a4 43 = .ok (.bipush 16, 2) := by decide +kernel
theorem dJ6_bitCount_0f7a4_45 : decode cJ6_bitCount_0f7a4 45 = .ok (.iushr, 1) := by decide +kernel
theorem dJ6_bitCount_0f7a4_46 : decode cJ6_bitCount_0f7a4 46 = .ok (.iadd, 1) := by decide +kernel
theorem dJ6_bitCount_0f7a4_47 : decode cJ6_bitCount_0f7a4 47 = .ok (.istore_n 0, 1) := by decide +kernel
theorem dJ6_bitCount_0f7a4_48 : decode cJ6_bitCount_0f7a4 48 = .ok (.iload_n 0, 1) := by decide +kernel
theorem dJ6_bitCount_0f7a4_49 : decode cJ6_bitCount_0f7a4 49 = .ok (.bipush 63, 2) := by decide +kernel
theorem dJ6_bitCount_0f7a4_51 : decode cJ6_bitCount_0f7a4 51 = .ok (.iand, 1) := by decide +kernel
theorem dJ6_bitCount_0f7a4_52 : decode cJ6_bitCount_0f7a4 52 = .ok (.ireturn, 1) := by decide +kernel
theorem dJ9_max_7cf53_0 : decode cJ9_max_7cf53 0 = .ok (.iload_n 0, 1) := by decide +kernel
theorem dJ9_max_7cf53_1 : decode cJ9_max_7cf53 1 = .ok (.iload_n 1, 1) := by decide +kernel
theorem dJ9_max_7cf53_2 : decode cJ9_max_7cf53 2 = .ok (.if_icmp .lt 7, 3) := by decide +kernel
theorem dJ9_max_7cf53_5 : decode cJ9_max_7cf53 5 = .ok (.iload_n 0, 1) := by decide +kernel
theorem dJ9_max_7cf53_6 : decode cJ9_max_7cf53 6 = .ok (.goto 4, 3) := by decide +kernel
theorem dJ9_max_7cf53_9 : decode cJ9_max_7cf53 9 = .ok (.iload_n 1, 1) := by decide +kernel
theorem dJ9_max_7cf53_10 : decode cJ9_max_7cf53 10 = .ok (.ireturn, 1) := by decide +kernel
theorem dJ9_min_7cf53_0 : decode cJ9_min_7cf53 0 = .ok (.iload_n 0, 1) := by decide +kernel
theorem dJ9_min_7cf53_1 : decode cJ9_min_7cf53 1 = .ok (.iload_n 1, 1) := by decide +kernel
theorem dJ9_min_7cf53_2 : decode cJ9_min_7cf53 2 = .ok (.if_icmp .gt 7, 3) := by decide +kernel
theorem dJ9_min_7cf53_5 : decode cJ9_min_7cf53 5 = .ok (.iload_n 0, 1) := by decide +kernel
theorem dJ9_min_7cf53_6 : decode cJ9_min_7cf53 6 = .ok (.goto 4, 3) := by decide +kernel
theorem dJ9_min_7cf53_9 : decode cJ9_min_7cf53 9 = .ok (.iload_n 1, 1) := by decide +kernel
theorem dJ9_min_7cf53_10 : decode cJ9_min_7cf53 10 = .ok (.ireturn, 1) := by decide +kernel
theorem dJ0_length_8abf5_0 : decode cJ0_length_8abf5 0 = .ok (.aload_n 0, 1) := by decide +kernel
theorem dJ0_length_8abf5_1 : decode cJ0_length_8abf5 1 = .ok (.getfield 9, 3) := by decide +kernel
theorem dJ0_length_8abf5_4 : decode cJ0_length_8abf5 4 = .ok (.arraylength, 1) := by decide +kernel
theorem dJ0_length_8abf5_5 : decode cJ0_length_8abf5 5 = .ok (.aload_n 0, 1) := by decide +kernel
theorem dJ0_length_8abf5_6 : decode cJ0_length_8abf5 6 = .ok (.invokevirtual 335, 3) := by decide +kernel
theorem dJ0_length_8abf5_9 : decode cJ0_length_8abf5 9 = .ok (.ishr, 1) := by decide +kernel
theorem dJ0_length_8abf5_10 : decode cJ0_length_8abf5 10 = .ok (.ireturn, 1) := by decide +kernel
theorem dJ0_charAt_5068e_0 : decode cJ0_charAt_5068e 0 = .ok (.aload_n 0, 1) := by decide +kernel
theorem dJ0_charAt_5068e_1 : decode cJ0_charAt_5068e 1 = .ok (.invokevirtual 492, 3) := by decide +kernel
theorem dJ0_charAt_5068e_4 : decode cJ0_charAt_5068e 4 = .ok (.ifCond .eq 12, 3) := by decide +kernel
theorem dJ0_charAt_5068e_7 : decode cJ0_charAt_5068e 7 = .ok (.aload_n 0, 1) := by decide +kernel
theorem dJ0_charAt_5068e_8 : decode cJ0_charAt_5068e 8 = .ok (.getfield 9, 3) := by decide +kernel
theorem dJ0_charAt_5068e_11 : decode cJ0_charAt_5068e 11 = .ok (.iload_n 1, 1) := by decide +kernel
theorem dJ0_charAt_5068e_12 : decode cJ0_charAt_5068e 12 = .ok (.invokestatic 495, 3) := by decide +kernel
theorem dJ0_charAt_5068e_15 : decode cJ0_charAt_5068e 15 = .ok (.ireturn, 1) := by decide +kernel
theorem dJ0_charAt_5068e_16 : decode cJ0_charAt_5068e 16 = .ok (.aload_n 0, 1) := by decide +kernel
theorem dJ0_charAt_5068e_17 : decode cJ0_charAt_5068e 17 = .ok (.getfield 9, 3) := by decide +kernel
theorem dJ0_charAt_5068e_20 : decode cJ0_charAt_5068e 20 = .ok (.iload_n 1, 1) := by decide +kernel
theorem dJ0_charAt_5068e_21 : decode cJ0_charAt_5068e 21 = .ok (.invokestatic 498, 3) := by decide +kernel
theorem dJ0_charAt_5068e_24 : decode cJ0_charAt_5068e 24 = .ok (.ireturn, 1) := by decide +kernel
theorem dJ0_coder_7d493_0 : decode cJ0_coder_7d493 0 = .ok (.getstatic 38, 3) := by decide +kernel
theorem dJ0_coder_7d493_3 : decode cJ0_coder_7d493 3 = .ok (.ifCond .eq 10, 3) := by decide +kernel
theorem dJ0_coder_7d493_6 : decode cJ0_coder_7d493 6 = .ok (.aload_n 0, 1) := by decide +kernel
theorem dJ0_coder_7d493_7 : decode cJ0_coder_7d493 7 = .ok (.getfield 15, 3) := by decide +kernel
theorem dJ0_coder_7d493_10 : decode cJ0_coder_7d493 10 = .ok (.goto 4, 3) := by decide +kernel
theorem dJ0_coder_7d493_13 : decode cJ0_coder_7d493 13 = .ok (.iconst 1, 1) := by decide +kernel
theorem dJ0_coder_7d493_14 : decode cJ0_coder_7d493 14 = .ok (.ireturn, 1) := by decide +kernel
theorem dJ0_isLatin1_aae02_0 : decode cJ0_isLatin1_aae02 0 = .ok (.getstatic 38, 3) := by decide +kernel
theorem dJ0_isLatin1_aae02_3 : decode cJ0_isLatin1_aae02 3 = .ok (.ifCond .eq 14, 3) := by decide +kernel
theorem dJ0_isLatin1_aae02_6 : decode cJ0_isLatin1_aae02 6 = .ok (.aload_n 0, 1) := by decide +kernel
theorem dJ0_isLatin1_aae02_7 : decode cJ0_isLatin1_aae02 7 = .ok (.getfield 15, 3) := by decide +kernel
theorem dJ0_isLatin1_aae02_10 : decode cJ0_isLatin1_aae02 10 = .ok (.ifCond .ne 7, 3) := by decide +kernel
theorem dJ0_isLatin1_aae02_13 : decode cJ0_isLatin1_aae02 13 = .ok (.iconst 1, 1) := by decide +kernel
theorem dJ0_isLatin1_aae02_14 : decode cJ0_isLatin1_aae02 14 = .ok (.goto 4, 3) := by decide +kernel
theorem dJ0_isLatin1_aae02_17 : decode cJ0_isLatin1_aae02 17 = .ok (.iconst 0, 1) := by decide +kernel
theorem dJ0_isLatin1_aae02_18 : decode cJ0_isLatin1_aae02 18 = .ok (.ireturn, 1) := by decide +kernel
theorem dJ0_checkIndex_df160_0 : decode cJ0_checkIndex_df160 0 = .ok (.iload_n 0, 1) := by decide +kernel
theorem dJ0_checkIndex_df160_1 : decode cJ0_checkIndex_df160 1 = .ok (.iload_n 1, 1) := by decide +kernel
theorem dJ0_checkIndex_df160_2 : decode cJ0_checkIndex_df160 2 = .ok (.getstatic 1053, 3) := by decide +kernel
theorem dJ0_checkIndex_df160_5 : decode cJ0_checkIndex_df160 5 = .ok (.invokestatic 1059, 3) := by decide +kernel
theorem dJ0_checkIndex_df160_8 : decode cJ0_checkIndex_df160 8 = .ok (.pop, 1) := by decide +kernel
theorem dJ0_checkIndex_df160_9 : decode cJ0_checkIndex_df160 9 = .ok (.return_, 1) := by decide +kernel
theorem dJ1_charAt_3b067_0 : decode cJ1_charAt_3b067 0 = .ok (.iload_n 1, 1) := by decide +kernel
theorem dJ1_charAt_3b067_1 : decode cJ1_charAt_3b067 1 = .ok (.aload_n 0, 1) := by decide +kernel
theorem dJ1_charAt_3b067_2 : decode cJ1_charAt_3b067 2 = .ok (.arraylength, 1) := by decide +kernel
theorem dJ1_charAt_3b067_3 : decode cJ1_charAt_3b067 3 = .ok (.invokestatic 9, 3) := by decide +kernel
theorem dJ1_charAt_3b067_6 : decode cJ1_charAt_3b067 6 = .ok (.aload_n 0, 1) := by decide +kernel
theorem dJ1_charAt_3b067_7 : decode cJ1_charAt_3b067 7 = .ok (.iload_n 1, 1) := by decide +kernel
theorem dJ1_charAt_3b067_8 : decode cJ1_charAt_3b067 8 = .ok (.baload, 1) := by decide +kernel
theorem dJ1_charAt_3b067_9 : decode cJ1_charAt_3b067 9 = .ok (.sipush 255, 3) := by decide +kernel
theorem dJ1_charAt_3b067_12 : decode cJ1_charAt_3b067 12 = .ok (.iand, 1) := by decide +kernel
theorem dJ1_charAt_3b067_13 : decode cJ1_charAt_3b067 13 = .ok (.i2c, 1) := by decide +kernel
theorem dJ1_charAt_3b067_14 : decode cJ1_charAt_3b067 14 = .ok (.ireturn, 1) := by decide +kernel
theorem dJ7_fill_53178_0 : decode cJ7_fill_53178 0 = .ok (.iconst 0, 1) := by decide +kernel
theorem dJ7_fill_53178_1 : decode cJ7_fill_53178 1 = .ok (.istore_n 2, 1) := by decide +kernel
theorem dJ7_fill_53178_2 : decode cJ7_fill_53178 2 = .ok (.aload_n 0, 1) := by decide +kernel
theorem dJ7_fill_53178_3 : decode cJ7_fill_53178 3 = .ok (.arraylength, 1) := by decide +kernel
theorem dJ7_fill_53178_4 : decode cJ7_fill_53178 4 = .ok (.istore_n 3, 1) := by decide +kernel
theorem dJ7_fill_53178_5 : decode cJ7_fill_53178 5 = .ok (.iload_n 2, 1) := by decide +kernel
theorem dJ7_fill_53178_6 : decode cJ7_fill_53178 6 = .ok (.iload_n 3, 1) := by decide +kernel
theorem dJ7_fill_53178_7 : decode cJ7_fill_53178 7 = .ok (.if_icmp .ge 13, 3) := by decide +kernel
theorem dJ7_fill_53178_10 : decode cJ7_fill_53178 10 = .ok (.aload_n 0, 1) := by decide +kernel
theorem dJ7_fill_53178_11 : decode cJ7_fill_53178 11 = .ok (.iload_n 2, 1) := by decide +kernel
theorem dJ7_fill_53178_12 : decode cJ7_fill_53178 12 = .ok (.iload_n 1, 1) := by decide +kernel
theorem dJ7_fill_53178_13 : decode cJ7_fill_53178 13 = .ok (.iastore, 1) := by decide +kernel
theorem dJ7_fill_53178_14 : decode cJ7_fill_53178 14 = .ok (.iinc 2 1, 3) := by decide +kernel
theorem dJ7_fill_53178_17 : decode cJ7_fill_53178 17 = .ok (.goto (-12), 3) := by decide +kernel
theorem dJ7_fill_53178_20 : decode cJ7_fill_53178 20 = .ok (.return_, 1) := by decide +kernel
theorem dJ3_checkIndex_8e157_0 : decode cJ3_checkIndex_8e157 0 = .ok (.iload_n 0, 1) := by decide +kernel
theorem dJ3_checkIndex_8e157_1 : decode cJ3_checkIndex_8e157 1 = .ok (.ifCond .lt 8, 3) := by decide +kernel
theorem dJ3_checkIndex_8e157_4 : decode cJ3_checkIndex_8e157 4 = .ok (.iload_n 0, 1) := by decide +kernel
theorem dJ3_checkIndex_8e157_5 : decode cJ3_checkIndex_8e157 5 = .ok (.iload_n 1, 1) := by decide +kernel
theorem dJ3_checkIndex_8e157_6 : decode cJ3_checkIndex_8e157 6 = .ok (.if_icmp .lt 10, 3) := by decide +kernel
theorem dJ3_checkIndex_8e157_9 : decode cJ3_checkIndex_8e157 9 = .ok (.aload_n 2, 1) := by decide +kernel
theorem dJ3_checkIndex_8e157_10 : decode cJ3_checkIndex_8e157 10 = .ok (.iload_n 0, 1) := by decide +kernel
theorem dJ3_checkIndex_8e157_11 : decode cJ3_checkIndex_8e157 11 = .ok (.iload_n 1, 1) := by decide +kernel
theorem dJ3_checkIndex_8e157_12 : decode cJ3_checkIndex_8e157 12 = .ok (.invokestatic 95, 3) := by decide +kernel
theorem dJ3_checkIndex_8e157_15 : decode cJ3_checkIndex_8e157 15 = .ok (.athrow, 1) := by decide +kernel
theorem dJ3_checkIndex_8e157_16 : decode cJ3_checkIndex_8e157 16 = .ok (.iload_n 0, 1) := by decide +kernel
theorem dJ3_checkIndex_8e157_17 : decode cJ3_checkIndex_8e157 17 = .ok (.ireturn, 1) := by decide +kernel
end
section
theorem dX4_init_0 : decode cX4_init 0 = .ok (.aload_n 0, 1) := by decide +kernel
theorem dX4_init_1 : decode cX4_init 1 = .ok (.invokespecial 1, 3) := by decide +kernel
theorem dX4_init_4 : decode cX4_init 4 = .ok (.aload_n 0, 1) := by decide +kernel
theorem dX4_init_5 : decode cX4_init 5 = .ok (.new 7, 3) := by decide +kernel
theorem dX4_init_8 : decode cX4_init 8 = .ok (.dup, 1) := by decide +kernel
theorem dX4_init_9 : decode cX4_init 9 = .ok (.invokespecial 9, 3) := by decide +kernel
theorem dX4_init_12 : decode cX4_init 12 = .ok (.putfield 10, 3) := by decide +kernel
theorem dX4_init_15 : decode cX4_init 15 = .ok (.aload_n 0, 1) := by decide +kernel
theorem dX4_init_16 : decode cX4_init 16 = .ok (.new 7, 3) := by decide +kernel
theorem dX4_init_19 : decode cX4_init 19 = .ok (.dup, 1) := by decide +kernel
theorem dX4_init_20 : decode cX4_init 20 = .ok (.invokespecial 9, 3) := by decide +kernel
theorem dX4_init_23 : decode cX4_init 23 = .ok (.putfield 16, 3) := by decide +kernel
theorem dX4_init_26 : decode cX4_init 26 = .ok (.aload_n 0, 1) := by decide +kernel
theorem dX4_init_27 : decode cX4_init 27 = .ok (.new 7, 3) := by decide +kernel
theorem dX4_init_30 : decode cX4_init 30 = .ok (.dup, 1) := by decide +kernel
theorem dX4_init_31 : decode cX4_init 31 = .ok (.invokespecial 9, 3) := by decide +kernel
theorem dX4_init_34 : decode cX4_init 34 = .ok (.putfield 19, 3) := by decide +kernel
theorem dX4_init_37 : decode cX4_init 37 = .ok (.aload_n 0, 1) := by decide +kernel
theorem dX4_init_38 : decode cX4_init 38 = .ok (.iconst 0, 1) := by decide +kernel
theorem dX4_init_39 : decode cX4_init 39 = .ok (.putfield 22, 3) := by decide +kernel
theorem dX4_init_42 : decode cX4_init 42 = .ok (.aload_n 0, 1) := by decide +kernel
theorem dX4_init_43 : decode cX4_init 43 = .ok (.new 26, 3) := by decide +kernel
theorem dX4_init_46 : decode cX4_init 46 = .ok (.dup, 1) := by decide +kernel
theorem dX4_init_47 : decode cX4_init 47 = .ok (.invokespecial 28, 3) := by decide +kernel
theorem dX4_init_50 : decode cX4_init 50 = .ok (.putfield 29, 3) := by decide +kernel
theorem dX4_init_53 : decode cX4_init 53 = .ok (.aload_n 0, 1) := by decide +kernel
theorem dX4_init_54 : decode cX4_init 54 = .ok (.new 33, 3) := by decide +kernel
theorem dX4_init_57 : decode cX4_init 57 = .ok (.dup, 1) := by decide +kernel
theorem dX4_init_58 : decode cX4_init 58 = .ok (.invokespecial 35, 3) := by decide +kernel
theorem dX4_init_61 : decode cX4_init 61 = .ok (.putfield 36, 3) := by decide +kernel
theorem dX4_init_64 : decode cX4_init 64 = .ok (.aload_n 0, 1) := by decide +kernel
theorem dX4_init_65 : decode cX4_init 65 = .ok (.bipush 7, 2) := by decide +kernel
theorem dX4_init_67 : decode cX4_init 67 = .ok (.newarray .int, 2) := by decide +kernel
theorem dX4_init_69 : decode cX4_init 69 = .ok (.putfield 40, 3) := by decide +kernel
theorem dX4_init_72 : decode cX4_init 72 = .ok (.return_, 1) := by decide +kernel
theorem dX4_set_0 : decode cX4_set 0 = .ok (.iload_n 1, 1) := by decide +kernel
theorem dX4_set_1 : decode cX4_set 1 = .ok (.iconst 0, 1) := by decide +kernel
theorem dX4_set_2 : decode cX4_set 2 = .ok (.iconst 2, 1) := by decide +kernel
theorem dX4_set_3 : decode cX4_set 3 = .ok (.invokestatic 44, 3) := by decide +kernel
theorem dX4_set_6 : decode cX4_set 6 = .ok (.ifCond .eq 16, 3) := by decide +kernel
theorem dX4_set_9 : decode cX4_set 9 = .ok (.iload_n 2, 1) := by decide +kernel
theorem dX4_set_10 : decode cX4_set 10 = .ok (.iconst 0, 1) := by decide +kernel
theorem dX4_set_11 : decode cX4_set 11 = .ok (.getstatic 48, 3) := by decide +kernel
theorem dX4_set_14 : decode cX4_set 14 = .ok (.iload_n 1, 1) := by decide +kernel
theorem dX4_set_15 : decode cX4_set 15 = .ok (.iaload, 1) := by decide +kernel
theorem dX4_set_16 : decode cX4_set 16 = .ok (.invokestatic 44, 3) := by decide +kernel
theorem dX4_set_19 : decode cX4_set 19 = .ok (.ifCond .ne 9, 3) := by decide +kernel
theorem dX4_set_22 : decode cX4_set 22 = .ok (.aload_n 0, 1) := by decide +kernel
theorem dX4_set_23 : decode cX4_set 23 = .ok (.iconst 0, 1) := by decide +kernel
theorem dX4_set_24 : decode cX4_set 24 = .ok (.invokevirtual 51, 3) := by decide +kernel
theorem dX4_set_27 : decode cX4_set 27 = .ok (.ireturn, 1) := by decide +kernel
theorem dX4_set_28 : decode cX4_set 28 = .ok (.iload_n 1, 1) := by decide +kernel
theorem dX4_set_29 : decode cX4_set 29 = .ok (.ifCond .ne 22, 3) := by decide +kernel
theorem dX4_set_32 : decode cX4_set 32 = .ok (.aload_n 0, 1) := by decide +kernel
theorem dX4_set_33 : decode cX4_set 33 = .ok (.getfield 10, 3) := by decide +kernel
theorem dX4_set_36 : decode cX4_set 36 = .ok (.getfield 55, 3) := by decide +kernel
theorem dX4_set_39 : decode cX4_set 39 = .ok (.istore_n 3, 1) := by decide +kernel
theorem dX4_set_40 : decode cX4_set 40 = .ok (.aload_n 0, 1) := by decide +kernel
theorem dX4_set_41 : decode cX4_set 41 = .ok (.getfield 10, 3) := by decide +kernel
theorem dX4_set_44 : decode cX4_set 44 = .ok (.iload_n 2, 1) := by decide +kernel
theorem dX4_set_45 : decode cX4_set 45 = .ok (.putfield 55, 3) := by decide +kernel
theorem dX4_set_48 : decode cX4_set 48 = .ok (.goto 43, 3) := by decide +kernel
theorem dX4_set_51 : decode cX4_set 51 = .ok (.iload_n 1, 1) := by decide +kernel
theorem dX4_set_52 : decode cX4_set 52 = .ok (.iconst 1, 1) := by decide +kernel
theorem dX4_set_53 : decode cX4_set 53 = .ok (.if_icmp .ne 22, 3) := by decide +kernel
theorem dX4_set_56 : decode cX4_set 56 = .ok (.aload_n 0, 1) := by decide +kernel
theorem dX4_set_57 : decode cX4_set 57 = .ok (.getfield 10, 3) := by decide +kernel
theorem dX4_set_60 : decode cX4_set 60 = .ok (.getfield 59, 3) := by decide +kernel
theorem dX4_set_63 : decode cX4_set 63 = .ok (.istore_n 3, 1) := by decide +kernel
theorem dX4_set_64 : decode cX4_set 64 = .ok (.aload_n 0, 1) := by decide +kernel
theorem dX4_set_65 : decode cX4_set 65 = .ok (.getfield 10, 3) := by decide +kernel
theorem dX4_set_68 : decode cX4_set 68 = .ok (.iload_n 2, 1) := by decide +kernel
theorem dX4_set_69 : decode cX4_set 69 = .ok (.putfield 59, 3) := by decide +kernel
theorem dX4_set_72 : decode cX4_set 72 = .ok (.goto 19, 3) := by decide +kernel
theorem dX4_set_75 : decode cX4_set 75 = .ok (.aload_n 0, 1) := by decide +kernel
theorem dX4_set_76 : decode cX4_set 76 = .ok (.getfield 10, 3) := by decide +kernel
theorem dX4_set_79 : decode cX4_set 79 = .ok (.getfield 62, 3) := by decide +kernel
theorem dX4_set_82 : decode cX4_set 82 = .ok (.istore_n 3, 1) := by decide +kernel
theorem dX4_set_83 : decode cX4_set 83 = .ok (.aload_n 0, 1) := by decide +kernel
theorem dX4_set_84 : decode cX4_set 84 = .ok (.getfield 10, 3) := by decide +kernel
theorem dX4_set_87 : decode cX4_set 87 = .ok (.iload_n 2, 1) := by decide +kernel
theorem dX4_set_88 : decode cX4_set 88 = .ok (.putfield 62, 3) := by decide +kernel
theorem dX4_set_91 : decode cX4_set 91 = .ok (.iload_n 3, 1) := by decide +kernel
theorem dX4_set_92 : decode cX4_set 92 = .ok (.ireturn, 1) := by decide +kernel
theorem dX4_cell_0 : decode cX4_cell 0 = .ok (.iload_n 1, 1) := by decide +kernel
theorem dX4_cell_1 : decode cX4_cell 1 = .ok (.invokestatic 65, 3) := by decide +kernel
theorem dX4_cell_4 : decode cX4_cell 4 = .ok (.ifCond .eq 13, 3) := by decide +kernel
theorem dX4_cell_7 : decode cX4_cell 7 = .ok (.iload_n 2, 1) := by decide +kernel
theorem dX4_cell_8 : decode cX4_cell 8 = .ok (.iconst 0, 1) := by decide +kernel
theorem dX4_cell_9 : decode cX4_cell 9 = .ok (.bipush 40, 2) := by decide +kernel
theorem dX4_cell_11 : decode cX4_cell 11 = .ok (.invokestatic 44, 3) := by decide +kernel
theorem dX4_cell_14 : decode cX4_cell 14 = .ok (.ifCond .ne 9, 3) := by decide +kernel
theorem dX4_cell_17 : decode cX4_cell 17 = .ok (.aload_n 0, 1) := by decide +kernel
theorem dX4_cell_18 : decode cX4_cell 18 = .ok (.iconst 0, 1) := by decide +kernel
theorem dX4_cell_19 : decode cX4_cell 19 = .ok (.invokevirtual 51, 3) := by decide +kernel
theorem dX4_cell_22 : decode cX4_cell 22 = .ok (.ireturn, 1) := by decide +kernel
theorem dX4_cell_23 : decode cX4_cell 23 = .ok (.aload_n 0, 1) := by decide +kernel
theorem dX4_cell_24 : decode cX4_cell 24 = .ok (.getfield 10, 3) := by decide +kernel
theorem dX4_cell_27 : decode cX4_cell 27 = .ok (.getfield 69, 3) := by decide +kernel
theorem dX4_cell_30 : decode cX4_cell 30 = .ok (.iload_n 1, 1) := by decide +kernel
theorem dX4_cell_31 : decode cX4_cell 31 = .ok (.iaload, 1) := by decide +kernel
theorem dX4_cell_32 : decode cX4_cell 32 = .ok (.istore_n 3, 1) := by decide +kernel
theorem dX4_cell_33 : decode cX4_cell 33 = .ok (.aload_n 0, 1) := by decide +kernel
theorem dX4_cell_34 : decode cX4_cell 34 = .ok (.getfield 10, 3) := by decide +kernel
theorem dX4_cell_37 : decode cX4_cell 37 = .ok (.getfield 69, 3) := by decide +kernel
theorem dX4_cell_40 : decode cX4_cell 40 = .ok (.iload_n 1, 1) := by decide +kernel
theorem dX4_cell_41 : decode cX4_cell 41 = .ok (.iload_n 2, 1) := by decide +kernel
theorem dX4_cell_42 : decode cX4_cell 42 = .ok (.iastore, 1) := by decide +kernel
theorem dX4_cell_43 : decode cX4_cell 43 = .ok (.iload_n 3, 1) := by decide +kernel
theorem dX4_cell_44 : decode cX4_cell 44 = .ok (.ireturn, 1) := by decide +kernel
theorem dX4_measure_0 : decode cX4_measure 0 = .ok (.iload_n 1, 1) := by decide +kernel
theorem dX4_measure_1 : decode cX4_measure 1 = .ok (.invokestatic 72, 3) := by decide +kernel
theorem dX4_measure_4 : decode cX4_measure 4 = .ok (.ifCond .eq 10, 3) := by decide +kernel
theorem dX4_measure_7 : decode cX4_measure 7 = .ok (.iload_n 2, 1) := by decide +kernel
theorem dX4_measure_8 : decode cX4_measure 8 = .ok (.invokestatic 75, 3) := by decide +kernel
theorem dX4_measure_11 : decode cX4_measure 11 = .ok (.ifCond .ne 9, 3) := by decide +kernel
theorem dX4_measure_14 : decode cX4_measure 14 = .ok (.aload_n 0, 1) := by decide +kernel
theorem dX4_measure_15 : decode cX4_measure 15 = .ok (.iconst 0, 1) := by decide +kernel
theorem dX4_measure_16 : decode cX4_measure 16 = .ok (.invokevirtual 51, 3) := by decide +kernel
theorem dX4_measure_19 : decode cX4_measure 19 = .ok (.ireturn, 1) := by decide +kernel
theorem dX4_measure_20 : decode cX4_measure 20 = .ok (.aload_n 0, 1) := by decide +kernel
theorem dX4_measure_21 : decode cX4_measure 21 = .ok (.getfield 10, 3) := by decide +kernel
theorem dX4_measure_24 : decode cX4_measure 24 = .ok (.getfield 78, 3) := by decide +kernel
theorem dX4_measure_27 : decode cX4_measure 27 = .ok (.iload_n 1, 1) := by decide +kernel
theorem dX4_measure_28 : decode cX4_measure 28 = .ok (.iaload, 1) := by decide +kernel
theorem dX4_measure_29 : decode cX4_measure 29 = .ok (.istore_n 3, 1) := by decide +kernel
theorem dX4_measure_30 : decode cX4_measure 30 = .ok (.aload_n 0, 1) := by decide +kernel
theorem dX4_measure_31 : decode cX4_measure 31 = .ok (.getfield 10, 3) := by decide +kernel
theorem dX4_measure_34 : decode cX4_measure 34 = .ok (.getfield 78, 3) := by decide +kernel
theorem dX4_measure_37 : decode cX4_measure 37 = .ok (.iload_n 1, 1) := by decide +kernel
theorem dX4_measure_38 : decode cX4_measure 38 = .ok (.iload_n 2, 1) := by decide +kernel
theorem dX4_measure_39 : decode cX4_measure 39 = .ok (.iastore, 1) := by decide +kernel
theorem dX4_measure_40 : decode cX4_measure 40 = .ok (.iload_n 3, 1) := by decide +kernel
theorem dX4_measure_41 : decode cX4_measure 41 = .ok (.ireturn, 1) := by decide +kernel
theorem dX4_listed_0 : decode cX4_listed 0 = .ok (.iload_n 1, 1) := by decide +kernel
theorem dX4_listed_1 : decode cX4_listed 1 = .ok (.invokestatic 72, 3) := by decide +kernel
theorem dX4_listed_4 : decode cX4_listed 4 = .ok (.ifCond .eq 15, 3) := by decide +kernel
theorem dX4_listed_7 : decode cX4_listed 7 = .ok (.aload_n 0, 1) := by decide +kernel
theorem dX4_listed_8 : decode cX4_listed 8 = .ok (.getfield 10, 3) := by decide +kernel
theorem dX4_listed_11 : decode cX4_listed 11 = .ok (.getfield 78, 3) := by decide +kernel
theorem dX4_listed_14 : decode cX4_listed 14 = .ok (.iload_n 1, 1) := by decide +kernel
theorem dX4_listed_15 : decode cX4_listed 15 = .ok (.iaload, 1) := by decide +kernel
theorem dX4_listed_16 : decode cX4_listed 16 = .ok (.goto 8, 3) := by decide +kernel
theorem dX4_listed_19 : decode cX4_listed 19 = .ok (.aload_n 0, 1) := by decide +kernel
theorem dX4_listed_20 : decode cX4_listed 20 = .ok (.iconst 0, 1) := by decide +kernel
theorem dX4_listed_21 : decode cX4_listed 21 = .ok (.invokevirtual 51, 3) := by decide +kernel
theorem dX4_listed_24 : decode cX4_listed 24 = .ok (.ireturn, 1) := by decide +kernel
theorem dX4_wide_0 : decode cX4_wide 0 = .ok (.iload_n 1, 1) := by decide +kernel
theorem dX4_wide_1 : decode cX4_wide 1 = .ok (.invokestatic 65, 3) := by decide +kernel
theorem dX4_wide_4 : decode cX4_wide 4 = .ok (.ifCond .eq 10, 3) := by decide +kernel
theorem dX4_wide_7 : decode cX4_wide 7 = .ok (.iload_n 2, 1) := by decide +kernel
theorem dX4_wide_8 : decode cX4_wide 8 = .ok (.invokestatic 75, 3) := by decide +kernel
theorem dX4_wide_11 : decode cX4_wide 11 = .ok (.ifCond .ne 9, 3) := by decide +kernel
theorem dX4_wide_14 : decode cX4_wide 14 = .ok (.aload_n 0, 1) := by decide +kernel
theorem dX4_wide_15 : decode cX4_wide 15 = .ok (.iconst 0, 1) := by decide +kernel
theorem dX4_wide_16 : decode cX4_wide 16 = .ok (.invokevirtual 51, 3) := by decide +kernel
theorem dX4_wide_19 : decode cX4_wide 19 = .ok (.ireturn, 1) := by decide +kernel
theorem dX4_wide_20 : decode cX4_wide 20 = .ok (.aload_n 0, 1) := by decide +kernel
theorem dX4_wide_21 : decode cX4_wide 21 = .ok (.getfield 10, 3) := by decide +kernel
theorem dX4_wide_24 : decode cX4_wide 24 = .ok (.iload_n 1, 1) := by decide +kernel
theorem dX4_wide_25 : decode cX4_wide 25 = .ok (.iload_n 2, 1) := by decide +kernel
theorem dX4_wide_26 : decode cX4_wide 26 = .ok (.invokevirtual 81, 3) := by decide +kernel
theorem dX4_wide_29 : decode cX4_wide 29 = .ok (.ireturn, 1) := by decide +kernel
theorem dX4_guest_0 : decode cX4_guest 0 = .ok (.iload_n 1, 1) := by decide +kernel
theorem dX4_guest_1 : decode cX4_guest 1 = .ok (.invokestatic 85, 3) := by decide +kernel
theorem dX4_guest_4 : decode cX4_guest 4 = .ok (.ifCond .eq 10, 3) := by decide +kernel
theorem dX4_guest_7 : decode cX4_guest 7 = .ok (.iload_n 2, 1) := by decide +kernel
theorem dX4_guest_8 : decode cX4_guest 8 = .ok (.invokestatic 65, 3) := by decide +kernel
theorem dX4_guest_11 : decode cX4_guest 11 = .ok (.ifCond .ne 9, 3) := by decide +kernel
theorem dX4_guest_14 : decode cX4_guest 14 = .ok (.aload_n 0, 1) := by decide +kernel
theorem dX4_guest_15 : decode cX4_guest 15 = .ok (.iconst 0, 1) := by decide +kernel
theorem dX4_guest_16 : decode cX4_guest 16 = .ok (.invokevirtual 51, 3) := by decide +kernel
theorem dX4_guest_19 : decode cX4_guest 19 = .ok (.ireturn, 1) := by decide +kernel
theorem dX4_guest_20 : decode cX4_guest 20 = .ok (.aload_n 0, 1) := by decide +kernel
theorem dX4_guest_21 : decode cX4_guest 21 = .ok (.getfield 10, 3) := by decide +kernel
theorem dX4_guest_24 : decode cX4_guest 24 = .ok (.invokevirtual 88, 3) := by decide +kernel
theorem dX4_guest_27 : decode cX4_guest 27 = .ok (.ifCond .eq 9, 3) := by decide +kernel
theorem dX4_guest_30 : decode cX4_guest 30 = .ok (.aload_n 0, 1) := by decide +kernel
theorem dX4_guest_31 : decode cX4_guest 31 = .ok (.iconst 1, 1) := by decide +kernel
theorem dX4_guest_32 : decode cX4_guest 32 = .ok (.invokevirtual 51, 3) := by decide +kernel
theorem dX4_guest_35 : decode cX4_guest 35 = .ok (.ireturn, 1) := by decide +kernel
theorem dX4_guest_36 : decode cX4_guest 36 = .ok (.aload_n 0, 1) := by decide +kernel
theorem dX4_guest_37 : decode cX4_guest 37 = .ok (.getfield 10, 3) := by decide +kernel
theorem dX4_guest_40 : decode cX4_guest 40 = .ok (.iload_n 1, 1) := by decide +kernel
theorem dX4_guest_41 : decode cX4_guest 41 = .ok (.iload_n 2, 1) := by decide +kernel
theorem dX4_guest_42 : decode cX4_guest 42 = .ok (.invokevirtual 92, 3) := by decide +kernel
theorem dX4_guest_45 : decode cX4_guest 45 = .ok (.ireturn, 1) := by decide +kernel
theorem dX4_of_0 : decode cX4_of 0 = .ok (.aload_n 0, 1) := by decide +kernel
theorem dX4_of_1 : decode cX4_of 1 = .ok (.iload_n 1, 1) := by decide +kernel
theorem dX4_of_2 : decode cX4_of 2 = .ok (.invokevirtual 95, 3) := by decide +kernel
theorem dX4_of_5 : decode cX4_of 5 = .ok (.ifCond .eq 13, 3) := by decide +kernel
theorem dX4_of_8 : decode cX4_of 8 = .ok (.iload_n 2, 1) := by decide +kernel
theorem dX4_of_9 : decode cX4_of 9 = .ok (.iconst 0, 1) := by decide +kernel
theorem dX4_of_10 : decode cX4_of 10 = .ok (.bipush 9, 2) := by decide +kernel
theorem dX4_of_12 : decode cX4_of 12 = .ok (.invokestatic 44, 3) := by decide +kernel
theorem dX4_of_15 : decode cX4_of 15 = .ok (.ifCond .ne 9, 3) := by decide +kernel
theorem dX4_of_18 : decode cX4_of 18 = .ok (.aload_n 0, 1) := by decide +kernel
theorem dX4_of_19 : decode cX4_of 19 = .ok (.iconst 0, 1) := by decide +kernel
theorem dX4_of_20 : decode cX4_of 20 = .ok (.invokevirtual 51, 3) := by decide +kernel
theorem dX4_of_23 : decode cX4_of 23 = .ok (.ireturn, 1) := by decide +kernel
theorem dX4_of_24 : decode cX4_of 24 = .ok (.iload_n 2, 1) := by decide +kernel
theorem dX4_of_25 : decode cX4_of 25 = .ok (.tableswitch 86 6 9 #[31, 40, 53, 73], 31) := by decide +kernel
theorem dX4_of_56 : decode cX4_of 56 = .ok (.aload_n 0, 1) := by decide +kernel
theorem dX4_of_57 : decode cX4_of 57 = .ok (.getfield 10, 3) := by decide +kernel
theorem dX4_of_60 : decode cX4_of 60 = .ok (.iload_n 1, 1) := by decide +kernel
theorem dX4_of_61 : decode cX4_of 61 = .ok (.invokevirtual 98, 3) := by decide +kernel
theorem dX4_of_64 : decode cX4_of 64 = .ok (.ireturn, 1) := by decide +kernel
theorem dX4_of_65 : decode cX4_of 65 = .ok (.aload_n 0, 1) := by decide +kernel
theorem dX4_of_66 : decode cX4_of 66 = .ok (.getfield 10, 3) := by decide +kernel
theorem dX4_of_69 : decode cX4_of 69 = .ok (.getfield 101, 3) := by decide +kernel
theorem dX4_of_72 : decode cX4_of 72 = .ok (.iload_n 1, 1) := by decide +kernel
theorem dX4_of_73 : decode cX4_of 73 = .ok (.iaload, 1) := by decide +kernel
theorem dX4_of_74 : decode cX4_of 74 = .ok (.invokestatic 104, 3) := by decide +kernel
theorem dX4_of_77 : decode cX4_of 77 = .ok (.ireturn, 1) := by decide +kernel
theorem dX4_of_78 : decode cX4_of 78 = .ok (.aload_n 0, 1) := by decide +kernel
theorem dX4_of_79 : decode cX4_of 79 = .ok (.getfield 10, 3) := by decide +kernel
theorem dX4_of_82 : decode cX4_of 82 = .ok (.getfield 101, 3) := by decide +kernel
theorem dX4_of_85 : decode cX4_of 85 = .ok (.iload_n 1, 1) := by decide +kernel
theorem dX4_of_86 : decode cX4_of 86 = .ok (.iaload, 1) := by decide +kernel
theorem dX4_of_87 : decode cX4_of 87 = .ok (.aload_n 0, 1) := by decide +kernel
theorem dX4_of_88 : decode cX4_of 88 = .ok (.getfield 10, 3) := by decide +kernel
theorem dX4_of_91 : decode cX4_of 91 = .ok (.getfield 109, 3) := by decide +kernel
theorem dX4_of_94 : decode cX4_of 94 = .ok (.invokestatic 112, 3) := by decide +kernel
theorem dX4_of_97 : decode cX4_of 97 = .ok (.ireturn, 1) := by decide +kernel
theorem dX4_of_98 : decode cX4_of 98 = .ok (.aload_n 0, 1) := by decide +kernel
theorem dX4_of_99 : decode cX4_of 99 = .ok (.getfield 10, 3) := by decide +kernel
theorem dX4_of_102 : decode cX4_of 102 = .ok (.getfield 101, 3) := by decide +kernel
theorem dX4_of_105 : decode cX4_of 105 = .ok (.iload_n 1, 1) := by decide +kernel
theorem dX4_of_106 : decode cX4_of 106 = .ok (.iaload, 1) := by decide +kernel
theorem dX4_of_107 : decode cX4_of 107 = .ok (.invokestatic 115, 3) := by decide +kernel
theorem dX4_of_110 : decode cX4_of 110 = .ok (.ireturn, 1) := by decide +kernel
theorem dX4_of_111 : decode cX4_of 111 = .ok (.aload_n 0, 1) := by decide +kernel
theorem dX4_of_112 : decode cX4_of 112 = .ok (.getfield 10, 3) := by decide +kernel
theorem dX4_of_115 : decode cX4_of 115 = .ok (.iload_n 2, 1) := by decide +kernel
theorem dX4_of_116 : decode cX4_of 116 = .ok (.invokevirtual 118, 3) := by decide +kernel
theorem dX4_of_119 : decode cX4_of 119 = .ok (.iload_n 1, 1) := by decide +kernel
theorem dX4_of_120 : decode cX4_of 120 = .ok (.iaload, 1) := by decide +kernel
theorem dX4_of_121 : decode cX4_of 121 = .ok (.ireturn, 1) := by decide +kernel
theorem dX4_change_0 : decode cX4_change 0 = .ok (.aload_n 0, 1) := by decide +kernel
theorem dX4_change_1 : decode cX4_change 1 = .ok (.iload_n 1, 1) := by decide +kernel
theorem dX4_change_2 : decode cX4_change 2 = .ok (.invokevirtual 95, 3) := by decide +kernel
theorem dX4_change_5 : decode cX4_change 5 = .ok (.ifCond .eq 29, 3) := by decide +kernel
theorem dX4_change_8 : decode cX4_change 8 = .ok (.iload_n 2, 1) := by decide +kernel
theorem dX4_change_9 : decode cX4_change 9 = .ok (.iconst 0, 1) := by decide +kernel
theorem dX4_change_10 : decode cX4_change 10 = .ok (.iconst 5, 1) := by decide +kernel
theorem dX4_change_11 : decode cX4_change 11 = .ok (.invokestatic 44, 3) := by decide +kernel
theorem dX4_change_14 : decode cX4_change 14 = .ok (.ifCond .eq 20, 3) := by decide +kernel
theorem dX4_change_17 : decode cX4_change 17 = .ok (.iload_n 3, 1) := by decide +kernel
theorem dX4_change_18 : decode cX4_change 18 = .ok (.getstatic 122, 3) := by decide +kernel
theorem dX4_change_21 : decode cX4_change 21 = .ok (.iload_n 2, 1) := by decide +kernel
theorem dX4_change_22 : decode cX4_change 22 = .ok (.iaload, 1) := by decide +kernel
theorem dX4_change_23 : decode cX4_change 23 = .ok (.getstatic 125, 3) := by decide +kernel
theorem dX4_change_26 : decode cX4_change 26 = .ok (.iload_n 2, 1) := by decide +kernel
theorem dX4_change_27 : decode cX4_change 27 = .ok (.iaload, 1) := by decide +kernel
theorem dX4_change_28 : decode cX4_change 28 = .ok (.invokestatic 44, 3) := by decide +kernel
theorem dX4_change_31 : decode cX4_change 31 = .ok (.ifCond .ne 9, 3) := by decide +kernel
theorem dX4_change_34 : decode cX4_change 34 = .ok (.aload_n 0, 1) := by decide +kernel
theorem dX4_change_35 : decode cX4_change 35 = .ok (.iconst 0, 1) := by decide +kernel
theorem dX4_change_36 : decode cX4_change 36 = .ok (.invokevirtual 51, 3) := by decide +kernel
theorem dX4_change_39 : decode cX4_change 39 = .ok (.ireturn, 1) := by decide +kernel
theorem dX4_change_40 : decode cX4_change 40 = .ok (.aload_n 0, 1) := by decide +kernel
theorem dX4_change_41 : decode cX4_change 41 = .ok (.getfield 10, 3) := by decide +kernel
theorem dX4_change_44 : decode cX4_change 44 = .ok (.iload_n 2, 1) := by decide +kernel
theorem dX4_change_45 : decode cX4_change 45 = .ok (.invokevirtual 118, 3) := by decide +kernel
theorem dX4_change_48 : decode cX4_change 48 = .ok (.astore 4, 2) := by decide +kernel
theorem dX4_change_50 : decode cX4_change 50 = .ok (.aload 4, 2) := by decide +kernel
theorem dX4_change_52 : decode cX4_change 52 = .ok (.iload_n 1, 1) := by decide +kernel
theorem dX4_change_53 : decode cX4_change 53 = .ok (.iaload, 1) := by decide +kernel
theorem dX4_change_54 : decode cX4_change 54 = .ok (.istore 5, 2) := by decide +kernel
theorem dX4_change_56 : decode cX4_change 56 = .ok (.aload 4, 2) := by decide +kernel
theorem dX4_change_58 : decode cX4_change 58 = .ok (.iload_n 1, 1) := by decide +kernel
theorem dX4_change_59 : decode cX4_change 59 = .ok (.iload_n 3, 1) := by decide +kernel
theorem dX4_change_60 : decode cX4_change 60 = .ok (.iastore, 1) := by decide +kernel
theorem dX4_change_61 : decode cX4_change 61 = .ok (.iload 5, 2) := by decide +kernel
theorem dX4_change_63 : decode cX4_change 63 = .ok (.ireturn, 1) := by decide +kernel
theorem dX4_reach_0 : decode cX4_reach 0 = .ok (.aload_n 0, 1) := by decide +kernel
theorem dX4_reach_1 : decode cX4_reach 1 = .ok (.iload_n 1, 1) := by decide +kernel
theorem dX4_reach_2 : decode cX4_reach 2 = .ok (.invokevirtual 95, 3) := by decide +kernel
theorem dX4_reach_5 : decode cX4_reach 5 = .ok (.ifCond .eq 10, 3) := by decide +kernel
theorem dX4_reach_8 : decode cX4_reach 8 = .ok (.iload_n 2, 1) := by decide +kernel
theorem dX4_reach_9 : decode cX4_reach 9 = .ok (.invokestatic 75, 3) := by decide +kernel
theorem dX4_reach_12 : decode cX4_reach 12 = .ok (.ifCond .ne 9, 3) := by decide +kernel
theorem dX4_reach_15 : decode cX4_reach 15 = .ok (.aload_n 0, 1) := by decide +kernel
theorem dX4_reach_16 : decode cX4_reach 16 = .ok (.iconst 0, 1) := by decide +kernel
theorem dX4_reach_17 : decode cX4_reach 17 = .ok (.invokevirtual 51, 3) := by decide +kernel
theorem dX4_reach_20 : decode cX4_reach 20 = .ok (.ireturn, 1) := by decide +kernel
theorem dX4_reach_21 : decode cX4_reach 21 = .ok (.aload_n 0, 1) := by decide +kernel
theorem dX4_reach_22 : decode cX4_reach 22 = .ok (.getfield 10, 3) := by decide +kernel
theorem dX4_reach_25 : decode cX4_reach 25 = .ok (.iload_n 1, 1) := by decide +kernel
theorem dX4_reach_26 : decode cX4_reach 26 = .ok (.iload_n 2, 1) := by decide +kernel
theorem dX4_reach_27 : decode cX4_reach 27 = .ok (.invokevirtual 128, 3) := by decide +kernel
theorem dX4_reach_30 : decode cX4_reach 30 = .ok (.ireturn, 1) := by decide +kernel
theorem dX4_go_0 : decode cX4_go 0 = .ok (.iload_n 1, 1) := by decide +kernel
theorem dX4_go_1 : decode cX4_go 1 = .ok (.iconst 1, 1) := by decide +kernel
theorem dX4_go_2 : decode cX4_go 2 = .ok (.bipush 60, 2) := by decide +kernel
theorem dX4_go_4 : decode cX4_go 4 = .ok (.invokestatic 44, 3) := by decide +kernel
theorem dX4_go_7 : decode cX4_go 7 = .ok (.ifCond .ne 9, 3) := by decide +kernel
theorem dX4_go_10 : decode cX4_go 10 = .ok (.aload_n 0, 1) := by decide +kernel
theorem dX4_go_11 : decode cX4_go 11 = .ok (.iconst 0, 1) := by decide +kernel
theorem dX4_go_12 : decode cX4_go 12 = .ok (.invokevirtual 51, 3) := by decide +kernel
theorem dX4_go_15 : decode cX4_go 15 = .ok (.ireturn, 1) := by decide +kernel
theorem dX4_go_16 : decode cX4_go 16 = .ok (.aload_n 0, 1) := by decide +kernel
theorem dX4_go_17 : decode cX4_go 17 = .ok (.getfield 10, 3) := by decide +kernel
theorem dX4_go_20 : decode cX4_go 20 = .ok (.getfield 109, 3) := by decide +kernel
theorem dX4_go_23 : decode cX4_go 23 = .ok (.iload_n 1, 1) := by decide +kernel
theorem dX4_go_24 : decode cX4_go 24 = .ok (.iadd, 1) := by decide +kernel
theorem dX4_go_25 : decode cX4_go 25 = .ok (.ldc 131, 2) := by decide +kernel
theorem dX4_go_27 : decode cX4_go 27 = .ok (.if_icmp .le 9, 3) := by decide +kernel
theorem dX4_go_30 : decode cX4_go 30 = .ok (.aload_n 0, 1) := by decide +kernel
theorem dX4_go_31 : decode cX4_go 31 = .ok (.iconst 4, 1) := by decide +kernel
theorem dX4_go_32 : decode cX4_go 32 = .ok (.invokevirtual 51, 3) := by decide +kernel
theorem dX4_go_35 : decode cX4_go 35 = .ok (.ireturn, 1) := by decide +kernel
theorem dX4_go_36 : decode cX4_go 36 = .ok (.aload_n 0, 1) := by decide +kernel
theorem dX4_go_37 : decode cX4_go 37 = .ok (.getfield 10, 3) := by decide +kernel
theorem dX4_go_40 : decode cX4_go 40 = .ok (.iload_n 1, 1) := by decide +kernel
theorem dX4_go_41 : decode cX4_go 41 = .ok (.invokevirtual 132, 3) := by decide +kernel
theorem dX4_go_44 : decode cX4_go 44 = .ok (.aload_n 0, 1) := by decide +kernel
theorem dX4_go_45 : decode cX4_go 45 = .ok (.getfield 10, 3) := by decide +kernel
theorem dX4_go_48 : decode cX4_go 48 = .ok (.getfield 59, 3) := by decide +kernel
theorem dX4_go_51 : decode cX4_go 51 = .ok (.ireturn, 1) := by decide +kernel
theorem dX4_now_0 : decode cX4_now 0 = .ok (.iload_n 1, 1) := by decide +kernel
theorem dX4_now_1 : decode cX4_now 1 = .ok (.tableswitch 111 0 7 #[47, 55, 63, 71, 79, 87, 95, 103], 47) := by decide +kernel
theorem dX4_now_48 : decode cX4_now 48 = .ok (.aload_n 0, 1) := by decide +kernel
theorem dX4_now_49 : decode cX4_now 49 = .ok (.getfield 10, 3) := by decide +kernel
theorem dX4_now_52 : decode cX4_now 52 = .ok (.getfield 109, 3) := by decide +kernel
theorem dX4_now_55 : decode cX4_now 55 = .ok (.ireturn, 1) := by decide +kernel
theorem dX4_now_56 : decode cX4_now 56 = .ok (.aload_n 0, 1) := by decide +kernel
theorem dX4_now_57 : decode cX4_now 57 = .ok (.getfield 10, 3) := by decide +kernel
theorem dX4_now_60 : decode cX4_now 60 = .ok (.invokevirtual 136, 3) := by decide +kernel
theorem dX4_now_63 : decode cX4_now 63 = .ok (.ireturn, 1) := by decide +kernel
theorem dX4_now_64 : decode cX4_now 64 = .ok (.aload_n 0, 1) := by decide +kernel
theorem dX4_now_65 : decode cX4_now 65 = .ok (.getfield 10, 3) := by decide +kernel
theorem dX4_now_68 : decode cX4_now 68 = .ok (.getfield 59, 3) := by decide +kernel
theorem dX4_now_71 : decode cX4_now 71 = .ok (.ireturn, 1) := by decide +kernel
theorem dX4_now_72 : decode cX4_now 72 = .ok (.aload_n 0, 1) := by decide +kernel
theorem dX4_now_73 : decode cX4_now 73 = .ok (.getfield 10, 3) := by decide +kernel
theorem dX4_now_76 : decode cX4_now 76 = .ok (.getfield 62, 3) := by decide +kernel
theorem dX4_now_79 : decode cX4_now 79 = .ok (.ireturn, 1) := by decide +kernel
theorem dX4_now_80 : decode cX4_now 80 = .ok (.aload_n 0, 1) := by decide +kernel
theorem dX4_now_81 : decode cX4_now 81 = .ok (.getfield 10, 3) := by decide +kernel
theorem dX4_now_84 : decode cX4_now 84 = .ok (.invokevirtual 140, 3) := by decide +kernel
theorem dX4_now_87 : decode cX4_now 87 = .ok (.ireturn, 1) := by decide +kernel
theorem dX4_now_88 : decode cX4_now 88 = .ok (.aload_n 0, 1) := by decide +kernel
theorem dX4_now_89 : decode cX4_now 89 = .ok (.getfield 10, 3) := by decide +kernel
theorem dX4_now_92 : decode cX4_now 92 = .ok (.invokevirtual 143, 3) := by decide +kernel
theorem dX4_now_95 : decode cX4_now 95 = .ok (.ireturn, 1) := by decide +kernel
theorem dX4_now_96 : decode cX4_now 96 = .ok (.aload_n 0, 1) := by decide +kernel
theorem dX4_now_97 : decode cX4_now 97 = .ok (.getfield 10, 3) := by decide +kernel
theorem dX4_now_100 : decode cX4_now 100 = .ok (.invokevirtual 146, 3) := by decide +kernel
theorem dX4_now_103 : decode cX4_now 103 = .ok (.ireturn, 1) := by decide +kernel
theorem dX4_now_104 : decode cX4_now 104 = .ok (.aload_n 0, 1) := by decide +kernel
theorem dX4_now_105 : decode cX4_now 105 = .ok (.getfield 10, 3) := by decide +kernel
theorem dX4_now_108 : decode cX4_now 108 = .ok (.invokevirtual 149, 3) := by decide +kernel
theorem dX4_now_111 : decode cX4_now 111 = .ok (.ireturn, 1) := by decide +kernel
theorem dX4_now_112 : decode cX4_now 112 = .ok (.aload_n 0, 1) := by decide +kernel
theorem dX4_now_113 : decode cX4_now 113 = .ok (.iconst 0, 1) := by decide +kernel
theorem dX4_now_114 : decode cX4_now 114 = .ok (.invokevirtual 51, 3) := by decide +kernel
theorem dX4_now_117 : decode cX4_now 117 = .ok (.ireturn, 1) := by decide +kernel
theorem dX4_ahead_0 : decode cX4_ahead 0 = .ok (.aload_n 0, 1) := by decide +kernel
theorem dX4_ahead_1 : decode cX4_ahead 1 = .ok (.iload_n 1, 1) := by decide +kernel
theorem dX4_ahead_2 : decode cX4_ahead 2 = .ok (.invokevirtual 95, 3) := by decide +kernel
theorem dX4_ahead_5 : decode cX4_ahead 5 = .ok (.ifCond .eq 29, 3) := by decide +kernel
theorem dX4_ahead_8 : decode cX4_ahead 8 = .ok (.iload_n 2, 1) := by decide +kernel
theorem dX4_ahead_9 : decode cX4_ahead 9 = .ok (.iconst 1, 1) := by decide +kernel
theorem dX4_ahead_10 : decode cX4_ahead 10 = .ok (.if_icmp .eq 14, 3) := by decide +kernel
theorem dX4_ahead_13 : decode cX4_ahead 13 = .ok (.iload_n 2, 1) := by decide +kernel
theorem dX4_ahead_14 : decode cX4_ahead 14 = .ok (.iconst 4, 1) := by decide +kernel
theorem dX4_ahead_15 : decode cX4_ahead 15 = .ok (.if_icmp .eq 9, 3) := by decide +kernel
theorem dX4_ahead_18 : decode cX4_ahead 18 = .ok (.iload_n 2, 1) := by decide +kernel
theorem dX4_ahead_19 : decode cX4_ahead 19 = .ok (.bipush 6, 2) := by decide +kernel
theorem dX4_ahead_21 : decode cX4_ahead 21 = .ok (.if_icmp .ne 13, 3) := by decide +kernel
theorem dX4_ahead_24 : decode cX4_ahead 24 = .ok (.iload_n 3, 1) := by decide +kernel
theorem dX4_ahead_25 : decode cX4_ahead 25 = .ok (.iconst 0, 1) := by decide +kernel
theorem dX4_ahead_26 : decode cX4_ahead 26 = .ok (.bipush 100, 2) := by decide +kernel
theorem dX4_ahead_28 : decode cX4_ahead 28 = .ok (.invokestatic 44, 3) := by decide +kernel
theorem dX4_ahead_31 : decode cX4_ahead 31 = .ok (.ifCond .ne 9, 3) := by decide +kernel
theorem dX4_ahead_34 : decode cX4_ahead 34 = .ok (.aload_n 0, 1) := by decide +kernel
theorem dX4_ahead_35 : decode cX4_ahead 35 = .ok (.iconst 0, 1) := by decide +kernel
theorem dX4_ahead_36 : decode cX4_ahead 36 = .ok (.invokevirtual 51, 3) := by decide +kernel
theorem dX4_ahead_39 : decode cX4_ahead 39 = .ok (.ireturn, 1) := by decide +kernel
theorem dX4_ahead_40 : decode cX4_ahead 40 = .ok (.aload_n 0, 1) := by decide +kernel
theorem dX4_ahead_41 : decode cX4_ahead 41 = .ok (.invokevirtual 152, 3) := by decide +kernel
theorem dX4_ahead_44 : decode cX4_ahead 44 = .ok (.aload_n 0, 1) := by decide +kernel
theorem dX4_ahead_45 : decode cX4_ahead 45 = .ok (.getfield 19, 3) := by decide +kernel
theorem dX4_ahead_48 : decode cX4_ahead 48 = .ok (.iload_n 3, 1) := by decide +kernel
theorem dX4_ahead_49 : decode cX4_ahead 49 = .ok (.invokevirtual 132, 3) := by decide +kernel
theorem dX4_ahead_52 : decode cX4_ahead 52 = .ok (.iload_n 2, 1) := by decide +kernel
theorem dX4_ahead_53 : decode cX4_ahead 53 = .ok (.bipush 6, 2) := by decide +kernel
theorem dX4_ahead_55 : decode cX4_ahead 55 = .ok (.if_icmp .ne 14, 3) := by decide +kernel
theorem dX4_ahead_58 : decode cX4_ahead 58 = .ok (.aload_n 0, 1) := by decide +kernel
theorem dX4_ahead_59 : decode cX4_ahead 59 = .ok (.getfield 19, 3) := by decide +kernel
theorem dX4_ahead_62 : decode cX4_ahead 62 = .ok (.iload_n 1, 1) := by decide +kernel
theorem dX4_ahead_63 : decode cX4_ahead 63 = .ok (.invokevirtual 98, 3) := by decide +kernel
theorem dX4_ahead_66 : decode cX4_ahead 66 = .ok (.goto 13, 3) := by decide +kernel
theorem dX4_ahead_69 : decode cX4_ahead 69 = .ok (.aload_n 0, 1) := by decide +kernel
theorem dX4_ahead_70 : decode cX4_ahead 70 = .ok (.getfield 19, 3) := by decide +kernel
theorem dX4_ahead_73 : decode cX4_ahead 73 = .ok (.iload_n 2, 1) := by decide +kernel
theorem dX4_ahead_74 : decode cX4_ahead 74 = .ok (.invokevirtual 118, 3) := by decide +kernel
theorem dX4_ahead_77 : decode cX4_ahead 77 = .ok (.iload_n 1, 1) := by decide +kernel
theorem dX4_ahead_78 : decode cX4_ahead 78 = .ok (.iaload, 1) := by decide +kernel
theorem dX4_ahead_79 : decode cX4_ahead 79 = .ok (.ireturn, 1) := by decide +kernel
theorem dX4_strain_0 : decode cX4_strain 0 = .ok (.iload_n 1, 1) := by decide +kernel
theorem dX4_strain_1 : decode cX4_strain 1 = .ok (.iconst 0, 1) := by decide +kernel
theorem dX4_strain_2 : decode cX4_strain 2 = .ok (.bipush 100, 2) := by decide +kernel
theorem dX4_strain_4 : decode cX4_strain 4 = .ok (.invokestatic 44, 3) := by decide +kernel
theorem dX4_strain_7 : decode cX4_strain 7 = .ok (.ifCond .ne 9, 3) := by decide +kernel
theorem dX4_strain_10 : decode cX4_strain 10 = .ok (.aload_n 0, 1) := by decide +kernel
theorem dX4_strain_11 : decode cX4_strain 11 = .ok (.iconst 0, 1) := by decide +kernel
theorem dX4_strain_12 : decode cX4_strain 12 = .ok (.invokevirtual 51, 3) := by decide +kernel
theorem dX4_strain_15 : decode cX4_strain 15 = .ok (.ireturn, 1) := by decide +kernel
theorem dX4_strain_16 : decode cX4_strain 16 = .ok (.aload_n 0, 1) := by decide +kernel
theorem dX4_strain_17 : decode cX4_strain 17 = .ok (.invokevirtual 152, 3) := by decide +kernel
theorem dX4_strain_20 : decode cX4_strain 20 = .ok (.aload_n 0, 1) := by decide +kernel
theorem dX4_strain_21 : decode cX4_strain 21 = .ok (.getfield 19, 3) := by decide +kernel
theorem dX4_strain_24 : decode cX4_strain 24 = .ok (.iload_n 1, 1) := by decide +kernel
theorem dX4_strain_25 : decode cX4_strain 25 = .ok (.invokevirtual 132, 3) := by decide +kernel
theorem dX4_strain_28 : decode cX4_strain 28 = .ok (.aload_n 0, 1) := by decide +kernel
theorem dX4_strain_29 : decode cX4_strain 29 = .ok (.getfield 19, 3) := by decide +kernel
theorem dX4_strain_32 : decode cX4_strain 32 = .ok (.getfield 59, 3) := by decide +kernel
theorem dX4_strain_35 : decode cX4_strain 35 = .ok (.ireturn, 1) := by decide +kernel
theorem dX4_snaps_0 : decode cX4_snaps 0 = .ok (.aload_n 0, 1) := by decide +kernel
theorem dX4_snaps_1 : decode cX4_snaps 1 = .ok (.invokevirtual 152, 3) := by decide +kernel
theorem dX4_snaps_4 : decode cX4_snaps 4 = .ok (.iconst 0, 1) := by decide +kernel
theorem dX4_snaps_5 : decode cX4_snaps 5 = .ok (.istore_n 1, 1) := by decide +kernel
theorem dX4_snaps_6 : decode cX4_snaps 6 = .ok (.iload_n 1, 1) := by decide +kernel
theorem dX4_snaps_7 : decode cX4_snaps 7 = .ok (.sipush 200, 3) := by decide +kernel
theorem dX4_snaps_10 : decode cX4_snaps 10 = .ok (.if_icmp .gt 29, 3) := by decide +kernel
theorem dX4_snaps_13 : decode cX4_snaps 13 = .ok (.aload_n 0, 1) := by decide +kernel
theorem dX4_snaps_14 : decode cX4_snaps 14 = .ok (.getfield 19, 3) := by decide +kernel
theorem dX4_snaps_17 : decode cX4_snaps 17 = .ok (.getfield 62, 3) := by decide +kernel
theorem dX4_snaps_20 : decode cX4_snaps 20 = .ok (.iconst 1, 1) := by decide +kernel
theorem dX4_snaps_21 : decode cX4_snaps 21 = .ok (.if_icmp .ne 5, 3) := by decide +kernel
theorem dX4_snaps_24 : decode cX4_snaps 24 = .ok (.iload_n 1, 1) := by decide +kernel
theorem dX4_snaps_25 : decode cX4_snaps 25 = .ok (.ireturn, 1) := by decide +kernel
theorem dX4_snaps_26 : decode cX4_snaps 26 = .ok (.aload_n 0, 1) := by decide +kernel
theorem dX4_snaps_27 : decode cX4_snaps 27 = .ok (.getfield 19, 3) := by decide +kernel
theorem dX4_snaps_30 : decode cX4_snaps 30 = .ok (.invokevirtual 155, 3) := by decide +kernel
theorem dX4_snaps_33 : decode cX4_snaps 33 = .ok (.iinc 1 1, 3) := by decide +kernel
theorem dX4_snaps_36 : decode cX4_snaps 36 = .ok (.goto (-30), 3) := by decide +kernel
theorem dX4_snaps_39 : decode cX4_snaps 39 = .ok (.aload_n 0, 1) := by decide +kernel
theorem dX4_snaps_40 : decode cX4_snaps 40 = .ok (.iconst 3, 1) := by decide +kernel
theorem dX4_snaps_41 : decode cX4_snaps 41 = .ok (.invokevirtual 51, 3) := by decide +kernel
theorem dX4_snaps_44 : decode cX4_snaps 44 = .ok (.ireturn, 1) := by decide +kernel
theorem dX4_comes_0 : decode cX4_comes 0 = .ok (.aload_n 0, 1) := by decide +kernel
theorem dX4_comes_1 : decode cX4_comes 1 = .ok (.iload_n 1, 1) := by decide +kernel
theorem dX4_comes_2 : decode cX4_comes 2 = .ok (.invokevirtual 95, 3) := by decide +kernel
theorem dX4_comes_5 : decode cX4_comes 5 = .ok (.ifCond .eq 10, 3) := by decide +kernel
theorem dX4_comes_8 : decode cX4_comes 8 = .ok (.iload_n 2, 1) := by decide +kernel
theorem dX4_comes_9 : decode cX4_comes 9 = .ok (.invokestatic 65, 3) := by decide +kernel
theorem dX4_comes_12 : decode cX4_comes 12 = .ok (.ifCond .ne 9, 3) := by decide +kernel
theorem dX4_comes_15 : decode cX4_comes 15 = .ok (.aload_n 0, 1) := by decide +kernel
theorem dX4_comes_16 : decode cX4_comes 16 = .ok (.iconst 0, 1) := by decide +kernel
theorem dX4_comes_17 : decode cX4_comes 17 = .ok (.invokevirtual 51, 3) := by decide +kernel
theorem dX4_comes_20 : decode cX4_comes 20 = .ok (.ireturn, 1) := by decide +kernel
theorem dX4_comes_21 : decode cX4_comes 21 = .ok (.aload_n 0, 1) := by decide +kernel
theorem dX4_comes_22 : decode cX4_comes 22 = .ok (.invokevirtual 152, 3) := by decide +kernel
theorem dX4_comes_25 : decode cX4_comes 25 = .ok (.iconst 0, 1) := by decide +kernel
theorem dX4_comes_26 : decode cX4_comes 26 = .ok (.istore_n 3, 1) := by decide +kernel
theorem dX4_comes_27 : decode cX4_comes 27 = .ok (.iload_n 3, 1) := by decide +kernel
theorem dX4_comes_28 : decode cX4_comes 28 = .ok (.sipush 200, 3) := by decide +kernel
theorem dX4_comes_31 : decode cX4_comes 31 = .ok (.if_icmp .gt 31, 3) := by decide +kernel
theorem dX4_comes_34 : decode cX4_comes 34 = .ok (.aload_n 0, 1) := by decide +kernel
theorem dX4_comes_35 : decode cX4_comes 35 = .ok (.getfield 19, 3) := by decide +kernel
theorem dX4_comes_38 : decode cX4_comes 38 = .ok (.getfield 158, 3) := by decide +kernel
theorem dX4_comes_41 : decode cX4_comes 41 = .ok (.iload_n 1, 1) := by decide +kernel
theorem dX4_comes_42 : decode cX4_comes 42 = .ok (.iaload, 1) := by decide +kernel
theorem dX4_comes_43 : decode cX4_comes 43 = .ok (.iload_n 2, 1) := by decide +kernel
theorem dX4_comes_44 : decode cX4_comes 44 = .ok (.if_icmp .ne 5, 3) := by decide +kernel
theorem dX4_comes_47 : decode cX4_comes 47 = .ok (.iload_n 3, 1) := by decide +kernel
theorem dX4_comes_48 : decode cX4_comes 48 = .ok (.ireturn, 1) := by decide +kernel
theorem dX4_comes_49 : decode cX4_comes 49 = .ok (.aload_n 0, 1) := by decide +kernel
theorem dX4_comes_50 : decode cX4_comes 50 = .ok (.getfield 19, 3) := by decide +kernel
theorem dX4_comes_53 : decode cX4_comes 53 = .ok (.invokevirtual 155, 3) := by decide +kernel
theorem dX4_comes_56 : decode cX4_comes 56 = .ok (.iinc 3 1, 3) := by decide +kernel
theorem dX4_comes_59 : decode cX4_comes 59 = .ok (.goto (-32), 3) := by decide +kernel
theorem dX4_comes_62 : decode cX4_comes 62 = .ok (.aload_n 0, 1) := by decide +kernel
theorem dX4_comes_63 : decode cX4_comes 63 = .ok (.iconst 3, 1) := by decide +kernel
theorem dX4_comes_64 : decode cX4_comes 64 = .ok (.invokevirtual 51, 3) := by decide +kernel
theorem dX4_comes_67 : decode cX4_comes 67 = .ok (.ireturn, 1) := by decide +kernel
theorem dX4_stuck_0 : decode cX4_stuck 0 = .ok (.aload_n 0, 1) := by decide +kernel
theorem dX4_stuck_1 : decode cX4_stuck 1 = .ok (.iload_n 1, 1) := by decide +kernel
theorem dX4_stuck_2 : decode cX4_stuck 2 = .ok (.invokevirtual 95, 3) := by decide +kernel
theorem dX4_stuck_5 : decode cX4_stuck 5 = .ok (.ifCond .eq 14, 3) := by decide +kernel
theorem dX4_stuck_8 : decode cX4_stuck 8 = .ok (.iload_n 2, 1) := by decide +kernel
theorem dX4_stuck_9 : decode cX4_stuck 9 = .ok (.iconst 0, 1) := by decide +kernel
theorem dX4_stuck_10 : decode cX4_stuck 10 = .ok (.sipush 9999, 3) := by decide +kernel
theorem dX4_stuck_13 : decode cX4_stuck 13 = .ok (.invokestatic 44, 3) := by decide +kernel
theorem dX4_stuck_16 : decode cX4_stuck 16 = .ok (.ifCond .ne 9, 3) := by decide +kernel
theorem dX4_stuck_19 : decode cX4_stuck 19 = .ok (.aload_n 0, 1) := by decide +kernel
theorem dX4_stuck_20 : decode cX4_stuck 20 = .ok (.iconst 0, 1) := by decide +kernel
theorem dX4_stuck_21 : decode cX4_stuck 21 = .ok (.invokevirtual 51, 3) := by decide +kernel
theorem dX4_stuck_24 : decode cX4_stuck 24 = .ok (.ireturn, 1) := by decide +kernel
theorem dX4_stuck_25 : decode cX4_stuck 25 = .ok (.aload_n 0, 1) := by decide +kernel
theorem dX4_stuck_26 : decode cX4_stuck 26 = .ok (.invokevirtual 152, 3) := by decide +kernel
theorem dX4_stuck_29 : decode cX4_stuck 29 = .ok (.iconst 0, 1) := by decide +kernel
theorem dX4_stuck_30 : decode cX4_stuck 30 = .ok (.istore_n 3, 1) := by decide +kernel
theorem dX4_stuck_31 : decode cX4_stuck 31 = .ok (.iload_n 3, 1) := by decide +kernel
theorem dX4_stuck_32 : decode cX4_stuck 32 = .ok (.sipush 200, 3) := by decide +kernel
theorem dX4_stuck_35 : decode cX4_stuck 35 = .ok (.if_icmp .gt 31, 3) := by decide +kernel
theorem dX4_stuck_38 : decode cX4_stuck 38 = .ok (.aload_n 0, 1) := by decide +kernel
theorem dX4_stuck_39 : decode cX4_stuck 39 = .ok (.getfield 19, 3) := by decide +kernel
theorem dX4_stuck_42 : decode cX4_stuck 42 = .ok (.getfield 161, 3) := by decide +kernel
theorem dX4_stuck_45 : decode cX4_stuck 45 = .ok (.iload_n 1, 1) := by decide +kernel
theorem dX4_stuck_46 : decode cX4_stuck 46 = .ok (.iaload, 1) := by decide +kernel
theorem dX4_stuck_47 : decode cX4_stuck 47 = .ok (.iload_n 2, 1) := by decide +kernel
theorem dX4_stuck_48 : decode cX4_stuck 48 = .ok (.if_icmp .lt 5, 3) := by decide +kernel
theorem dX4_stuck_51 : decode cX4_stuck 51 = .ok (.iload_n 3, 1) := by decide +kernel
theorem dX4_stuck_52 : decode cX4_stuck 52 = .ok (.ireturn, 1) := by decide +kernel
theorem dX4_stuck_53 : decode cX4_stuck 53 = .ok (.aload_n 0, 1) := by decide +kernel
theorem dX4_stuck_54 : decode cX4_stuck 54 = .ok (.getfield 19, 3) := by decide +kernel
theorem dX4_stuck_57 : decode cX4_stuck 57 = .ok (.invokevirtual 155, 3) := by decide +kernel
theorem dX4_stuck_60 : decode cX4_stuck 60 = .ok (.iinc 3 1, 3) := by decide +kernel
theorem dX4_stuck_63 : decode cX4_stuck 63 = .ok (.goto (-32), 3) := by decide +kernel
theorem dX4_stuck_66 : decode cX4_stuck 66 = .ok (.aload_n 0, 1) := by decide +kernel
theorem dX4_stuck_67 : decode cX4_stuck 67 = .ok (.iconst 3, 1) := by decide +kernel
theorem dX4_stuck_68 : decode cX4_stuck 68 = .ok (.invokevirtual 51, 3) := by decide +kernel
theorem dX4_stuck_71 : decode cX4_stuck 71 = .ok (.ireturn, 1) := by decide +kernel
theorem dX4_tight_0 : decode cX4_tight 0 = .ok (.iload_n 1, 1) := by decide +kernel
theorem dX4_tight_1 : decode cX4_tight 1 = .ok (.invokestatic 72, 3) := by decide +kernel
theorem dX4_tight_4 : decode cX4_tight 4 = .ok (.ifCond .eq 13, 3) := by decide +kernel
theorem dX4_tight_7 : decode cX4_tight 7 = .ok (.iload_n 2, 1) := by decide +kernel
theorem dX4_tight_8 : decode cX4_tight 8 = .ok (.iconst 0, 1) := by decide +kernel
theorem dX4_tight_9 : decode cX4_tight 9 = .ok (.bipush 60, 2) := by decide +kernel
theorem dX4_tight_11 : decode cX4_tight 11 = .ok (.invokestatic 44, 3) := by decide +kernel
theorem dX4_tight_14 : decode cX4_tight 14 = .ok (.ifCond .ne 9, 3) := by decide +kernel
theorem dX4_tight_17 : decode cX4_tight 17 = .ok (.aload_n 0, 1) := by decide +kernel
theorem dX4_tight_18 : decode cX4_tight 18 = .ok (.iconst 0, 1) := by decide +kernel
theorem dX4_tight_19 : decode cX4_tight 19 = .ok (.invokevirtual 51, 3) := by decide +kernel
theorem dX4_tight_22 : decode cX4_tight 22 = .ok (.ireturn, 1) := by decide +kernel
theorem dX4_tight_23 : decode cX4_tight 23 = .ok (.bipush 16, 2) := by decide +kernel
theorem dX4_tight_25 : decode cX4_tight 25 = .ok (.istore_n 3, 1) := by decide +kernel
theorem dX4_tight_26 : decode cX4_tight 26 = .ok (.iload_n 3, 1) := by decide +kernel
theorem dX4_tight_27 : decode cX4_tight 27 = .ok (.bipush 36, 2) := by decide +kernel
theorem dX4_tight_29 : decode cX4_tight 29 = .ok (.if_icmp .gt 36, 3) := by decide +kernel
theorem dX4_tight_32 : decode cX4_tight 32 = .ok (.aload_n 0, 1) := by decide +kernel
theorem dX4_tight_33 : decode cX4_tight 33 = .ok (.invokevirtual 152, 3) := by decide +kernel
theorem dX4_tight_36 : decode cX4_tight 36 = .ok (.aload_n 0, 1) := by decide +kernel
theorem dX4_tight_37 : decode cX4_tight 37 = .ok (.getfield 19, 3) := by decide +kernel
theorem dX4_tight_40 : decode cX4_tight 40 = .ok (.getfield 78, 3) := by decide +kernel
theorem dX4_tight_43 : decode cX4_tight 43 = .ok (.iload_n 1, 1) := by decide +kernel
theorem dX4_tight_44 : decode cX4_tight 44 = .ok (.iload_n 3, 1) := by decide +kernel
theorem dX4_tight_45 : decode cX4_tight 45 = .ok (.iastore, 1) := by decide +kernel
theorem dX4_tight_46 : decode cX4_tight 46 = .ok (.aload_n 0, 1) := by decide +kernel
theorem dX4_tight_47 : decode cX4_tight 47 = .ok (.getfield 19, 3) := by decide +kernel
theorem dX4_tight_50 : decode cX4_tight 50 = .ok (.iload_n 2, 1) := by decide +kernel
theorem dX4_tight_51 : decode cX4_tight 51 = .ok (.invokevirtual 164, 3) := by decide +kernel
theorem dX4_tight_54 : decode cX4_tight 54 = .ok (.ifCond .eq 5, 3) := by decide +kernel
theorem dX4_tight_57 : decode cX4_tight 57 = .ok (.iload_n 3, 1) := by decide +kernel
theorem dX4_tight_58 : decode cX4_tight 58 = .ok (.ireturn, 1) := by decide +kernel
theorem dX4_tight_59 : decode cX4_tight 59 = .ok (.iinc 3 1, 3) := by decide +kernel
theorem dX4_tight_62 : decode cX4_tight 62 = .ok (.goto (-36), 3) := by decide +kernel
theorem dX4_tight_65 : decode cX4_tight 65 = .ok (.aload_n 0, 1) := by decide +kernel
theorem dX4_tight_66 : decode cX4_tight 66 = .ok (.iconst 3, 1) := by decide +kernel
theorem dX4_tight_67 : decode cX4_tight 67 = .ok (.invokevirtual 51, 3) := by decide +kernel
theorem dX4_tight_70 : decode cX4_tight 70 = .ok (.ireturn, 1) := by decide +kernel
theorem dX4_measureFor_0 : decode cX4_measureFor 0 = .ok (.aload_n 0, 1) := by decide +kernel
theorem dX4_measureFor_1 : decode cX4_measureFor 1 = .ok (.iload_n 1, 1) := by decide +kernel
theorem dX4_measureFor_2 : decode cX4_measureFor 2 = .ok (.invokevirtual 95, 3) := by decide +kernel
theorem dX4_measureFor_5 : decode cX4_measureFor 5 = .ok (.ifCond .eq 10, 3) := by decide +kernel
theorem dX4_measureFor_8 : decode cX4_measureFor 8 = .ok (.iload_n 2, 1) := by decide +kernel
theorem dX4_measureFor_9 : decode cX4_measureFor 9 = .ok (.invokestatic 65, 3) := by decide +kernel
theorem dX4_measureFor_12 : decode cX4_measureFor 12 = .ok (.ifCond .ne 9, 3) := by decide +kernel
theorem dX4_measureFor_15 : decode cX4_measureFor 15 = .ok (.aload_n 0, 1) := by decide +kernel
theorem dX4_measureFor_16 : decode cX4_measureFor 16 = .ok (.iconst 0, 1) := by decide +kernel
theorem dX4_measureFor_17 : decode cX4_measureFor 17 = .ok (.invokevirtual 51, 3) := by decide +kernel
theorem dX4_measureFor_20 : decode cX4_measureFor 20 = .ok (.ireturn, 1) := by decide +kernel
theorem dX4_measureFor_21 : decode cX4_measureFor 21 = .ok (.bipush 16, 2) := by decide +kernel
theorem dX4_measureFor_23 : decode cX4_measureFor 23 = .ok (.istore_n 3, 1) := by decide +kernel
theorem dX4_measureFor_24 : decode cX4_measureFor 24 = .ok (.iload_n 3, 1) := by decide +kernel
theorem dX4_measureFor_25 : decode cX4_measureFor 25 = .ok (.bipush 36, 2) := by decide +kernel
theorem dX4_measureFor_27 : decode cX4_measureFor 27 = .ok (.if_icmp .gt 24, 3) := by decide +kernel
theorem dX4_measureFor_30 : decode cX4_measureFor 30 = .ok (.aload_n 0, 1) := by decide +kernel
theorem dX4_measureFor_31 : decode cX4_measureFor 31 = .ok (.getfield 10, 3) := by decide +kernel
theorem dX4_measureFor_34 : decode cX4_measureFor 34 = .ok (.iload_n 1, 1) := by decide +kernel
theorem dX4_measureFor_35 : decode cX4_measureFor 35 = .ok (.iload_n 2, 1) := by decide +kernel
theorem dX4_measureFor_36 : decode cX4_measureFor 36 = .ok (.iload_n 3, 1) := by decide +kernel
theorem dX4_measureFor_37 : decode cX4_measureFor 37 = .ok (.invokevirtual 167, 3) := by decide +kernel
theorem dX4_measureFor_40 : decode cX4_measureFor 40 = .ok (.ifCond .eq 5, 3) := by decide +kernel
theorem dX4_measureFor_43 : decode cX4_measureFor 43 = .ok (.iload_n 3, 1) := by decide +kernel
theorem dX4_measureFor_44 : decode cX4_measureFor 44 = .ok (.ireturn, 1) := by decide +kernel
theorem dX4_measureFor_45 : decode cX4_measureFor 45 = .ok (.iinc 3 1, 3) := by decide +kernel
theorem dX4_measureFor_48 : decode cX4_measureFor 48 = .ok (.goto (-24), 3) := by decide +kernel
theorem dX4_measureFor_51 : decode cX4_measureFor 51 = .ok (.aload_n 0, 1) := by decide +kernel
theorem dX4_measureFor_52 : decode cX4_measureFor 52 = .ok (.iconst 3, 1) := by decide +kernel
theorem dX4_measureFor_53 : decode cX4_measureFor 53 = .ok (.invokevirtual 51, 3) := by decide +kernel
theorem dX4_measureFor_56 : decode cX4_measureFor 56 = .ok (.ireturn, 1) := by decide +kernel
theorem dX4_kindFor_0 : decode cX4_kindFor 0 = .ok (.aload_n 0, 1) := by decide +kernel
theorem dX4_kindFor_1 : decode cX4_kindFor 1 = .ok (.iload_n 1, 1) := by decide +kernel
theorem dX4_kindFor_2 : decode cX4_kindFor 2 = .ok (.invokevirtual 95, 3) := by decide +kernel
theorem dX4_kindFor_5 : decode cX4_kindFor 5 = .ok (.ifCond .eq 13, 3) := by decide +kernel
theorem dX4_kindFor_8 : decode cX4_kindFor 8 = .ok (.iload_n 2, 1) := by decide +kernel
theorem dX4_kindFor_9 : decode cX4_kindFor 9 = .ok (.iconst 0, 1) := by decide +kernel
theorem dX4_kindFor_10 : decode cX4_kindFor 10 = .ok (.bipush 60, 2) := by decide +kernel
theorem dX4_kindFor_12 : decode cX4_kindFor 12 = .ok (.invokestatic 44, 3) := by decide +kernel
theorem dX4_kindFor_15 : decode cX4_kindFor 15 = .ok (.ifCond .ne 9, 3) := by decide +kernel
theorem dX4_kindFor_18 : decode cX4_kindFor 18 = .ok (.aload_n 0, 1) := by decide +kernel
theorem dX4_kindFor_19 : decode cX4_kindFor 19 = .ok (.iconst 0, 1) := by decide +kernel
theorem dX4_kindFor_20 : decode cX4_kindFor 20 = .ok (.invokevirtual 51, 3) := by decide +kernel
theorem dX4_kindFor_23 : decode cX4_kindFor 23 = .ok (.ireturn, 1) := by decide +kernel
theorem dX4_kindFor_24 : decode cX4_kindFor 24 = .ok (.iconst 0, 1) := by decide +kernel
theorem dX4_kindFor_25 : decode cX4_kindFor 25 = .ok (.istore_n 3, 1) := by decide +kernel
theorem dX4_kindFor_26 : decode cX4_kindFor 26 = .ok (.sipush 10000, 3) := by decide +kernel
theorem dX4_kindFor_29 : decode cX4_kindFor 29 = .ok (.istore 4, 2) := by decide +kernel
theorem dX4_kindFor_31 : decode cX4_kindFor 31 = .ok (.iconst 0, 1) := by decide +kernel
theorem dX4_kindFor_32 : decode cX4_kindFor 32 = .ok (.istore 5, 2) := by decide +kernel
theorem dX4_kindFor_34 : decode cX4_kindFor 34 = .ok (.iload 5, 2) := by decide +kernel
theorem dX4_kindFor_36 : decode cX4_kindFor 36 = .ok (.bipush 7, 2) := by decide +kernel
theorem dX4_kindFor_38 : decode cX4_kindFor 38 = .ok (.if_icmp .ge 56, 3) := by decide +kernel
theorem dX4_kindFor_41 : decode cX4_kindFor 41 = .ok (.aload_n 0, 1) := by decide +kernel
theorem dX4_kindFor_42 : decode cX4_kindFor 42 = .ok (.invokevirtual 152, 3) := by decide +kernel
theorem dX4_kindFor_45 : decode cX4_kindFor 45 = .ok (.aload_n 0, 1) := by decide +kernel
theorem dX4_kindFor_46 : decode cX4_kindFor 46 = .ok (.getfield 19, 3) := by decide +kernel
theorem dX4_kindFor_49 : decode cX4_kindFor 49 = .ok (.getfield 101, 3) := by decide +kernel
theorem dX4_kindFor_52 : decode cX4_kindFor 52 = .ok (.iload_n 1, 1) := by decide +kernel
theorem dX4_kindFor_53 : decode cX4_kindFor 53 = .ok (.iload 5, 2) := by decide +kernel
theorem dX4_kindFor_55 : decode cX4_kindFor 55 = .ok (.iastore, 1) := by decide +kernel
theorem dX4_kindFor_56 : decode cX4_kindFor 56 = .ok (.aload_n 0, 1) := by decide +kernel
theorem dX4_kindFor_57 : decode cX4_kindFor 57 = .ok (.getfield 19, 3) := by decide +kernel
theorem dX4_kindFor_60 : decode cX4_kindFor 60 = .ok (.iload_n 2, 1) := by decide +kernel
theorem dX4_kindFor_61 : decode cX4_kindFor 61 = .ok (.invokevirtual 132, 3) := by decide +kernel
theorem dX4_kindFor_64 : decode cX4_kindFor 64 = .ok (.aload_n 0, 1) := by decide +kernel
theorem dX4_kindFor_65 : decode cX4_kindFor 65 = .ok (.getfield 19, 3) := by decide +kernel
theorem dX4_kindFor_68 : decode cX4_kindFor 68 = .ok (.getfield 59, 3) := by decide +kernel
theorem dX4_kindFor_71 : decode cX4_kindFor 71 = .ok (.iload 4, 2) := by decide +kernel
theorem dX4_kindFor_73 : decode cX4_kindFor 73 = .ok (.if_icmp .ge 15, 3) := by decide +kernel
theorem dX4_kindFor_76 : decode cX4_kindFor 76 = .ok (.aload_n 0, 1) := by decide +kernel
theorem dX4_kindFor_77 : decode cX4_kindFor 77 = .ok (.getfield 19, 3) := by decide +kernel
theorem dX4_kindFor_80 : decode cX4_kindFor 80 = .ok (.getfield 59, 3) := by decide +kernel
theorem dX4_kindFor_83 : decode cX4_kindFor 83 = .ok (.istore 4, 2) := by decide +kernel
theorem dX4_kindFor_85 : decode cX4_kindFor 85 = .ok (.iload 5, 2) := by decide +kernel
theorem dX4_kindFor_87 : decode cX4_kindFor 87 = .ok (.istore_n 3, 1) := by decide +kernel
theorem dX4_kindFor_88 : decode cX4_kindFor 88 = .ok (.iinc 5 1, 3) := by decide +kernel
theorem dX4_kindFor_91 : decode cX4_kindFor 91 = .ok (.goto (-57), 3) := by decide +kernel
theorem dX4_kindFor_94 : decode cX4_kindFor 94 = .ok (.iload_n 3, 1) := by decide +kernel
theorem dX4_kindFor_95 : decode cX4_kindFor 95 = .ok (.ireturn, 1) := by decide +kernel
theorem dX4_sizeFor_0 : decode cX4_sizeFor 0 = .ok (.aload_n 0, 1) := by decide +kernel
theorem dX4_sizeFor_1 : decode cX4_sizeFor 1 = .ok (.iload_n 1, 1) := by decide +kernel
theorem dX4_sizeFor_2 : decode cX4_sizeFor 2 = .ok (.invokevirtual 95, 3) := by decide +kernel
theorem dX4_sizeFor_5 : decode cX4_sizeFor 5 = .ok (.ifCond .eq 13, 3) := by decide +kernel
theorem dX4_sizeFor_8 : decode cX4_sizeFor 8 = .ok (.iload_n 2, 1) := by decide +kernel
theorem dX4_sizeFor_9 : decode cX4_sizeFor 9 = .ok (.iconst 0, 1) := by decide +kernel
theorem dX4_sizeFor_10 : decode cX4_sizeFor 10 = .ok (.bipush 60, 2) := by decide +kernel
theorem dX4_sizeFor_12 : decode cX4_sizeFor 12 = .ok (.invokestatic 44, 3) := by decide +kernel
theorem dX4_sizeFor_15 : decode cX4_sizeFor 15 = .ok (.ifCond .ne 9, 3) := by decide +kernel
theorem dX4_sizeFor_18 : decode cX4_sizeFor 18 = .ok (.aload_n 0, 1) := by decide +kernel
theorem dX4_sizeFor_19 : decode cX4_sizeFor 19 = .ok (.iconst 0, 1) := by decide +kernel
theorem dX4_sizeFor_20 : decode cX4_sizeFor 20 = .ok (.invokevirtual 51, 3) := by decide +kernel
theorem dX4_sizeFor_23 : decode cX4_sizeFor 23 = .ok (.ireturn, 1) := by decide +kernel
theorem dX4_sizeFor_24 : decode cX4_sizeFor 24 = .ok (.bipush 40, 2) := by decide +kernel
theorem dX4_sizeFor_26 : decode cX4_sizeFor 26 = .ok (.istore_n 3, 1) := by decide +kernel
theorem dX4_sizeFor_27 : decode cX4_sizeFor 27 = .ok (.iload_n 3, 1) := by decide +kernel
theorem dX4_sizeFor_28 : decode cX4_sizeFor 28 = .ok (.iconst 1, 1) := by decide +kernel
theorem dX4_sizeFor_29 : decode cX4_sizeFor 29 = .ok (.if_icmp .lt 54, 3) := by decide +kernel
theorem dX4_sizeFor_32 : decode cX4_sizeFor 32 = .ok (.aload_n 0, 1) := by decide +kernel
theorem dX4_sizeFor_33 : decode cX4_sizeFor 33 = .ok (.invokevirtual 152, 3) := by decide +kernel
theorem dX4_sizeFor_36 : decode cX4_sizeFor 36 = .ok (.aload_n 0, 1) := by decide +kernel
theorem dX4_sizeFor_37 : decode cX4_sizeFor 37 = .ok (.getfield 19, 3) := by decide +kernel
theorem dX4_sizeFor_40 : decode cX4_sizeFor 40 = .ok (.getfield 170, 3) := by decide +kernel
theorem dX4_sizeFor_43 : decode cX4_sizeFor 43 = .ok (.iload_n 1, 1) := by decide +kernel
theorem dX4_sizeFor_44 : decode cX4_sizeFor 44 = .ok (.iload_n 3, 1) := by decide +kernel
theorem dX4_sizeFor_45 : decode cX4_sizeFor 45 = .ok (.iastore, 1) := by decide +kernel
theorem dX4_sizeFor_46 : decode cX4_sizeFor 46 = .ok (.aload_n 0, 1) := by decide +kernel
theorem dX4_sizeFor_47 : decode cX4_sizeFor 47 = .ok (.getfield 19, 3) := by decide +kernel
theorem dX4_sizeFor_50 : decode cX4_sizeFor 50 = .ok (.iload_n 2, 1) := by decide +kernel
theorem dX4_sizeFor_51 : decode cX4_sizeFor 51 = .ok (.invokevirtual 132, 3) := by decide +kernel
theorem dX4_sizeFor_54 : decode cX4_sizeFor 54 = .ok (.aload_n 0, 1) := by decide +kernel
theorem dX4_sizeFor_55 : decode cX4_sizeFor 55 = .ok (.getfield 19, 3) := by decide +kernel
theorem dX4_sizeFor_58 : decode cX4_sizeFor 58 = .ok (.getfield 158, 3) := by decide +kernel
theorem dX4_sizeFor_61 : decode cX4_sizeFor 61 = .ok (.iload_n 1, 1) := by decide +kernel
theorem dX4_sizeFor_62 : decode cX4_sizeFor 62 = .ok (.iaload, 1) := by decide +kernel
theorem dX4_sizeFor_63 : decode cX4_sizeFor 63 = .ok (.aload_n 0, 1) := by decide +kernel
theorem dX4_sizeFor_64 : decode cX4_sizeFor 64 = .ok (.getfield 19, 3) := by decide +kernel
theorem dX4_sizeFor_67 : decode cX4_sizeFor 67 = .ok (.getfield 173, 3) := by decide +kernel
theorem dX4_sizeFor_70 : decode cX4_sizeFor 70 = .ok (.iload_n 1, 1) := by decide +kernel
theorem dX4_sizeFor_71 : decode cX4_sizeFor 71 = .ok (.iaload, 1) := by decide +kernel
theorem dX4_sizeFor_72 : decode cX4_sizeFor 72 = .ok (.if_icmp .ne 5, 3) := by decide +kernel
theorem dX4_sizeFor_75 : decode cX4_sizeFor 75 = .ok (.iload_n 3, 1) := by decide +kernel
theorem dX4_sizeFor_76 : decode cX4_sizeFor 76 = .ok (.ireturn, 1) := by decide +kernel
theorem dX4_sizeFor_77 : decode cX4_sizeFor 77 = .ok (.iinc 3 (-1), 3) := by decide +kernel
theorem dX4_sizeFor_80 : decode cX4_sizeFor 80 = .ok (.goto (-53), 3) := by decide +kernel
theorem dX4_sizeFor_83 : decode cX4_sizeFor 83 = .ok (.aload_n 0, 1) := by decide +kernel
theorem dX4_sizeFor_84 : decode cX4_sizeFor 84 = .ok (.iconst 3, 1) := by decide +kernel
theorem dX4_sizeFor_85 : decode cX4_sizeFor 85 = .ok (.invokevirtual 51, 3) := by decide +kernel
theorem dX4_sizeFor_88 : decode cX4_sizeFor 88 = .ok (.ireturn, 1) := by decide +kernel
theorem dX4_send_0 : decode cX4_send 0 = .ok (.iload_n 1, 1) := by decide +kernel
theorem dX4_send_1 : decode cX4_send 1 = .ok (.iconst 0, 1) := by decide +kernel
theorem dX4_send_2 : decode cX4_send 2 = .ok (.bipush 20, 2) := by decide +kernel
theorem dX4_send_4 : decode cX4_send 4 = .ok (.invokestatic 44, 3) := by decide +kernel
theorem dX4_send_7 : decode cX4_send 7 = .ok (.ifCond .ne 9, 3) := by decide +kernel
theorem dX4_send_10 : decode cX4_send 10 = .ok (.aload_n 0, 1) := by decide +kernel
theorem dX4_send_11 : decode cX4_send 11 = .ok (.iconst 0, 1) := by decide +kernel
theorem dX4_send_12 : decode cX4_send 12 = .ok (.invokevirtual 51, 3) := by decide +kernel
theorem dX4_send_15 : decode cX4_send 15 = .ok (.ireturn, 1) := by decide +kernel
theorem dX4_send_16 : decode cX4_send 16 = .ok (.iconst 1, 1) := by decide +kernel
theorem dX4_send_17 : decode cX4_send 17 = .ok (.aload_n 0, 1) := by decide +kernel
theorem dX4_send_18 : decode cX4_send 18 = .ok (.getfield 10, 3) := by decide +kernel
theorem dX4_send_21 : decode cX4_send 21 = .ok (.getfield 176, 3) := by decide +kernel
theorem dX4_send_24 : decode cX4_send 24 = .ok (.ishl, 1) := by decide +kernel
theorem dX4_send_25 : decode cX4_send 25 = .ok (.istore_n 2, 1) := by decide +kernel
theorem dX4_send_26 : decode cX4_send 26 = .ok (.iconst 0, 1) := by decide +kernel
theorem dX4_send_27 : decode cX4_send 27 = .ok (.istore_n 3, 1) := by decide +kernel
theorem dX4_send_28 : decode cX4_send 28 = .ok (.iload_n 3, 1) := by decide +kernel
theorem dX4_send_29 : decode cX4_send 29 = .ok (.aload_n 0, 1) := by decide +kernel
theorem dX4_send_30 : decode cX4_send 30 = .ok (.getfield 10, 3) := by decide +kernel
theorem dX4_send_33 : decode cX4_send 33 = .ok (.getfield 176, 3) := by decide +kernel
theorem dX4_send_36 : decode cX4_send 36 = .ok (.if_icmp .gt 60, 3) := by decide +kernel
theorem dX4_send_39 : decode cX4_send 39 = .ok (.iconst 0, 1) := by decide +kernel
theorem dX4_send_40 : decode cX4_send 40 = .ok (.istore 4, 2) := by decide +kernel
theorem dX4_send_42 : decode cX4_send 42 = .ok (.iload 4, 2) := by decide +kernel
theorem dX4_send_44 : decode cX4_send 44 = .ok (.iload_n 2, 1) := by decide +kernel
theorem dX4_send_45 : decode cX4_send 45 = .ok (.if_icmp .ge 45, 3) := by decide +kernel
theorem dX4_send_48 : decode cX4_send 48 = .ok (.iload 4, 2) := by decide +kernel
theorem dX4_send_50 : decode cX4_send 50 = .ok (.invokestatic 179, 3) := by decide +kernel
theorem dX4_send_53 : decode cX4_send 53 = .ok (.iload_n 3, 1) := by decide +kernel
theorem dX4_send_54 : decode cX4_send 54 = .ok (.if_icmp .ne 30, 3) := by decide +kernel
theorem dX4_send_57 : decode cX4_send 57 = .ok (.aload_n 0, 1) := by decide +kernel
theorem dX4_send_58 : decode cX4_send 58 = .ok (.invokevirtual 152, 3) := by decide +kernel
theorem dX4_send_61 : decode cX4_send 61 = .ok (.aload_n 0, 1) := by decide +kernel
theorem dX4_send_62 : decode cX4_send 62 = .ok (.getfield 19, 3) := by decide +kernel
theorem dX4_send_65 : decode cX4_send 65 = .ok (.iload 4, 2) := by decide +kernel
theorem dX4_send_67 : decode cX4_send 67 = .ok (.invokevirtual 184, 3) := by decide +kernel
theorem dX4_send_70 : decode cX4_send 70 = .ok (.aload_n 0, 1) := by decide +kernel
theorem dX4_send_71 : decode cX4_send 71 = .ok (.getfield 19, 3) := by decide +kernel
theorem dX4_send_74 : decode cX4_send 74 = .ok (.iload_n 1, 1) := by decide +kernel
theorem dX4_send_75 : decode cX4_send 75 = .ok (.invokevirtual 164, 3) := by decide +kernel
theorem dX4_send_78 : decode cX4_send 78 = .ok (.ifCond .eq 6, 3) := by decide +kernel
theorem dX4_send_81 : decode cX4_send 81 = .ok (.iload 4, 2) := by decide +kernel
theorem dX4_send_83 : decode cX4_send 83 = .ok (.ireturn, 1) := by decide +kernel
theorem dX4_send_84 : decode cX4_send 84 = .ok (.iinc 4 1, 3) := by decide +kernel
theorem dX4_send_87 : decode cX4_send 87 = .ok (.goto (-45), 3) := by decide +kernel
theorem dX4_send_90 : decode cX4_send 90 = .ok (.iinc 3 1, 3) := by decide +kernel
theorem dX4_send_93 : decode cX4_send 93 = .ok (.goto (-65), 3) := by decide +kernel
theorem dX4_send_96 : decode cX4_send 96 = .ok (.aload_n 0, 1) := by decide +kernel
theorem dX4_send_97 : decode cX4_send 97 = .ok (.iconst 3, 1) := by decide +kernel
theorem dX4_send_98 : decode cX4_send 98 = .ok (.invokevirtual 51, 3) := by decide +kernel
theorem dX4_send_101 : decode cX4_send 101 = .ok (.ireturn, 1) := by decide +kernel
theorem dX4_fits_0 : decode cX4_fits 0 = .ok (.aload_n 0, 1) := by decide +kernel
theorem dX4_fits_1 : decode cX4_fits 1 = .ok (.iload_n 1, 1) := by decide +kernel
theorem dX4_fits_2 : decode cX4_fits 2 = .ok (.iload_n 2, 1) := by decide +kernel
theorem dX4_fits_3 : decode cX4_fits 3 = .ok (.invokevirtual 187, 3) := by decide +kernel
theorem dX4_fits_6 : decode cX4_fits 6 = .ok (.istore_n 3, 1) := by decide +kernel
theorem dX4_fits_7 : decode cX4_fits 7 = .ok (.iload_n 3, 1) := by decide +kernel
theorem dX4_fits_8 : decode cX4_fits 8 = .ok (.ifCond .lt 9, 3) := by decide +kernel
theorem dX4_fits_11 : decode cX4_fits 11 = .ok (.aload_n 0, 1) := by decide +kernel
theorem dX4_fits_12 : decode cX4_fits 12 = .ok (.iload_n 3, 1) := by decide +kernel
theorem dX4_fits_13 : decode cX4_fits 13 = .ok (.invokevirtual 51, 3) := by decide +kernel
theorem dX4_fits_16 : decode cX4_fits 16 = .ok (.ireturn, 1) := by decide +kernel
theorem dX4_fits_17 : decode cX4_fits 17 = .ok (.iconst 0, 1) := by decide +kernel
theorem dX4_fits_18 : decode cX4_fits 18 = .ok (.istore 4, 2) := by decide +kernel
theorem dX4_fits_20 : decode cX4_fits 20 = .ok (.bipush 16, 2) := by decide +kernel
theorem dX4_fits_22 : decode cX4_fits 22 = .ok (.istore 5, 2) := by decide +kernel
theorem dX4_fits_24 : decode cX4_fits 24 = .ok (.iload 5, 2) := by decide +kernel
theorem dX4_fits_26 : decode cX4_fits 26 = .ok (.bipush 36, 2) := by decide +kernel
theorem dX4_fits_28 : decode cX4_fits 28 = .ok (.if_icmp .gt 42, 3) := by decide +kernel
theorem dX4_fits_31 : decode cX4_fits 31 = .ok (.aload_n 0, 1) := by decide +kernel
theorem dX4_fits_32 : decode cX4_fits 32 = .ok (.invokevirtual 152, 3) := by decide +kernel
theorem dX4_fits_35 : decode cX4_fits 35 = .ok (.aload_n 0, 1) := by decide +kernel
theorem dX4_fits_36 : decode cX4_fits 36 = .ok (.getfield 19, 3) := by decide +kernel
theorem dX4_fits_39 : decode cX4_fits 39 = .ok (.getfield 78, 3) := by decide +kernel
theorem dX4_fits_42 : decode cX4_fits 42 = .ok (.aload_n 0, 1) := by decide +kernel
theorem dX4_fits_43 : decode cX4_fits 43 = .ok (.getfield 19, 3) := by decide +kernel
theorem dX4_fits_46 : decode cX4_fits 46 = .ok (.invokevirtual 190, 3) := by decide +kernel
theorem dX4_fits_49 : decode cX4_fits 49 = .ok (.iload 5, 2) := by decide +kernel
theorem dX4_fits_51 : decode cX4_fits 51 = .ok (.iastore, 1) := by decide +kernel
theorem dX4_fits_52 : decode cX4_fits 52 = .ok (.aload_n 0, 1) := by decide +kernel
theorem dX4_fits_53 : decode cX4_fits 53 = .ok (.iload_n 1, 1) := by decide +kernel
theorem dX4_fits_54 : decode cX4_fits 54 = .ok (.iload_n 2, 1) := by decide +kernel
theorem dX4_fits_55 : decode cX4_fits 55 = .ok (.invokevirtual 193, 3) := by decide +kernel
theorem dX4_fits_58 : decode cX4_fits 58 = .ok (.ifCond .eq 6, 3) := by decide +kernel
theorem dX4_fits_61 : decode cX4_fits 61 = .ok (.iinc 4 1, 3) := by decide +kernel
theorem dX4_fits_64 : decode cX4_fits 64 = .ok (.iinc 5 1, 3) := by decide +kernel
theorem dX4_fits_67 : decode cX4_fits 67 = .ok (.goto (-43), 3) := by decide +kernel
theorem dX4_fits_70 : decode cX4_fits 70 = .ok (.iload 4, 2) := by decide +kernel
theorem dX4_fits_72 : decode cX4_fits 72 = .ok (.ireturn, 1) := by decide +kernel
theorem dX4_kinds_0 : decode cX4_kinds 0 = .ok (.aload_n 0, 1) := by decide +kernel
theorem dX4_kinds_1 : decode cX4_kinds 1 = .ok (.iload_n 1, 1) := by decide +kernel
theorem dX4_kinds_2 : decode cX4_kinds 2 = .ok (.iload_n 2, 1) := by decide +kernel
theorem dX4_kinds_3 : decode cX4_kinds 3 = .ok (.invokevirtual 187, 3) := by decide +kernel
theorem dX4_kinds_6 : decode cX4_kinds 6 = .ok (.istore_n 3, 1) := by decide +kernel
theorem dX4_kinds_7 : decode cX4_kinds 7 = .ok (.iload_n 3, 1) := by decide +kernel
theorem dX4_kinds_8 : decode cX4_kinds 8 = .ok (.ifCond .lt 9, 3) := by decide +kernel
theorem dX4_kinds_11 : decode cX4_kinds 11 = .ok (.aload_n 0, 1) := by decide +kernel
theorem dX4_kinds_12 : decode cX4_kinds 12 = .ok (.iload_n 3, 1) := by decide +kernel
theorem dX4_kinds_13 : decode cX4_kinds 13 = .ok (.invokevirtual 51, 3) := by decide +kernel
theorem dX4_kinds_16 : decode cX4_kinds 16 = .ok (.ireturn, 1) := by decide +kernel
theorem dX4_kinds_17 : decode cX4_kinds 17 = .ok (.iconst 0, 1) := by decide +kernel
theorem dX4_kinds_18 : decode cX4_kinds 18 = .ok (.istore 4, 2) := by decide +kernel
theorem dX4_kinds_20 : decode cX4_kinds 20 = .ok (.iconst 0, 1) := by decide +kernel
theorem dX4_kinds_21 : decode cX4_kinds 21 = .ok (.istore 5, 2) := by decide +kernel
theorem dX4_kinds_23 : decode cX4_kinds 23 = .ok (.iload 5, 2) := by decide +kernel
theorem dX4_kinds_25 : decode cX4_kinds 25 = .ok (.bipush 7, 2) := by decide +kernel
theorem dX4_kinds_27 : decode cX4_kinds 27 = .ok (.if_icmp .ge 42, 3) := by decide +kernel
theorem dX4_kinds_30 : decode cX4_kinds 30 = .ok (.aload_n 0, 1) := by decide +kernel
theorem dX4_kinds_31 : decode cX4_kinds 31 = .ok (.invokevirtual 152, 3) := by decide +kernel
theorem dX4_kinds_34 : decode cX4_kinds 34 = .ok (.aload_n 0, 1) := by decide +kernel
theorem dX4_kinds_35 : decode cX4_kinds 35 = .ok (.getfield 19, 3) := by decide +kernel
theorem dX4_kinds_38 : decode cX4_kinds 38 = .ok (.getfield 101, 3) := by decide +kernel
theorem dX4_kinds_41 : decode cX4_kinds 41 = .ok (.iload_n 2, 1) := by decide +kernel
theorem dX4_kinds_42 : decode cX4_kinds 42 = .ok (.iload 5, 2) := by decide +kernel
theorem dX4_kinds_44 : decode cX4_kinds 44 = .ok (.iastore, 1) := by decide +kernel
theorem dX4_kinds_45 : decode cX4_kinds 45 = .ok (.aload_n 0, 1) := by decide +kernel
theorem dX4_kinds_46 : decode cX4_kinds 46 = .ok (.iload_n 1, 1) := by decide +kernel
theorem dX4_kinds_47 : decode cX4_kinds 47 = .ok (.iload_n 2, 1) := by decide +kernel
theorem dX4_kinds_48 : decode cX4_kinds 48 = .ok (.invokevirtual 193, 3) := by decide +kernel
theorem dX4_kinds_51 : decode cX4_kinds 51 = .ok (.ifCond .eq 12, 3) := by decide +kernel
theorem dX4_kinds_54 : decode cX4_kinds 54 = .ok (.iload 4, 2) := by decide +kernel
theorem dX4_kinds_56 : decode cX4_kinds 56 = .ok (.iconst 1, 1) := by decide +kernel
theorem dX4_kinds_57 : decode cX4_kinds 57 = .ok (.iload 5, 2) := by decide +kernel
theorem dX4_kinds_59 : decode cX4_kinds 59 = .ok (.ishl, 1) := by decide +kernel
theorem dX4_kinds_60 : decode cX4_kinds 60 = .ok (.ior, 1) := by decide +kernel
theorem dX4_kinds_61 : decode cX4_kinds 61 = .ok (.istore 4, 2) := by decide +kernel
theorem dX4_kinds_63 : decode cX4_kinds 63 = .ok (.iinc 5 1, 3) := by decide +kernel
theorem dX4_kinds_66 : decode cX4_kinds 66 = .ok (.goto (-43), 3) := by decide +kernel
theorem dX4_kinds_69 : decode cX4_kinds 69 = .ok (.iload 4, 2) := by decide +kernel
theorem dX4_kinds_71 : decode cX4_kinds 71 = .ok (.ireturn, 1) := by decide +kernel
theorem dX4_party_0 : decode cX4_party 0 = .ok (.iload_n 1, 1) := by decide +kernel
theorem dX4_party_1 : decode cX4_party 1 = .ok (.iconst 1, 1) := by decide +kernel
theorem dX4_party_2 : decode cX4_party 2 = .ok (.bipush 20, 2) := by decide +kernel
theorem dX4_party_4 : decode cX4_party 4 = .ok (.invokestatic 44, 3) := by decide +kernel
theorem dX4_party_7 : decode cX4_party 7 = .ok (.ifCond .ne 9, 3) := by decide +kernel
theorem dX4_party_10 : decode cX4_party 10 = .ok (.aload_n 0, 1) := by decide +kernel
theorem dX4_party_11 : decode cX4_party 11 = .ok (.iconst 0, 1) := by decide +kernel
theorem dX4_party_12 : decode cX4_party 12 = .ok (.invokevirtual 51, 3) := by decide +kernel
theorem dX4_party_15 : decode cX4_party 15 = .ok (.ireturn, 1) := by decide +kernel
theorem dX4_party_16 : decode cX4_party 16 = .ok (.aload_n 0, 1) := by decide +kernel
theorem dX4_party_17 : decode cX4_party 17 = .ok (.getfield 10, 3) := by decide +kernel
theorem dX4_party_20 : decode cX4_party 20 = .ok (.getfield 109, 3) := by decide +kernel
theorem dX4_party_23 : decode cX4_party 23 = .ok (.iload_n 1, 1) := by decide +kernel
theorem dX4_party_24 : decode cX4_party 24 = .ok (.iadd, 1) := by decide +kernel
theorem dX4_party_25 : decode cX4_party 25 = .ok (.ldc 131, 2) := by decide +kernel
theorem dX4_party_27 : decode cX4_party 27 = .ok (.if_icmp .le 9, 3) := by decide +kernel
theorem dX4_party_30 : decode cX4_party 30 = .ok (.aload_n 0, 1) := by decide +kernel
theorem dX4_party_31 : decode cX4_party 31 = .ok (.iconst 4, 1) := by decide +kernel
theorem dX4_party_32 : decode cX4_party 32 = .ok (.invokevirtual 51, 3) := by decide +kernel
theorem dX4_party_35 : decode cX4_party 35 = .ok (.ireturn, 1) := by decide +kernel
theorem dX4_party_36 : decode cX4_party 36 = .ok (.iconst 0, 1) := by decide +kernel
theorem dX4_party_37 : decode cX4_party 37 = .ok (.istore_n 2, 1) := by decide +kernel
theorem dX4_party_38 : decode cX4_party 38 = .ok (.iload_n 2, 1) := by decide +kernel
theorem dX4_party_39 : decode cX4_party 39 = .ok (.iload_n 1, 1) := by decide +kernel
theorem dX4_party_40 : decode cX4_party 40 = .ok (.if_icmp .ge 16, 3) := by decide +kernel
theorem dX4_party_43 : decode cX4_party 43 = .ok (.aload_n 0, 1) := by decide +kernel
theorem dX4_party_44 : decode cX4_party 44 = .ok (.getfield 10, 3) := by decide +kernel
theorem dX4_party_47 : decode cX4_party 47 = .ok (.invokevirtual 197, 3) := by decide +kernel
theorem dX4_party_50 : decode cX4_party 50 = .ok (.iinc 2 1, 3) := by decide +kernel
theorem dX4_party_53 : decode cX4_party 53 = .ok (.goto (-15), 3) := by decide +kernel
theorem dX4_party_56 : decode cX4_party 56 = .ok (.aload_n 0, 1) := by decide +kernel
theorem dX4_party_57 : decode cX4_party 57 = .ok (.getfield 10, 3) := by decide +kernel
theorem dX4_party_60 : decode cX4_party 60 = .ok (.getfield 59, 3) := by decide +kernel
theorem dX4_party_63 : decode cX4_party 63 = .ok (.ireturn, 1) := by decide +kernel
theorem dX4_odds_0 : decode cX4_odds 0 = .ok (.aload_n 0, 1) := by decide +kernel
theorem dX4_odds_1 : decode cX4_odds 1 = .ok (.iload_n 1, 1) := by decide +kernel
theorem dX4_odds_2 : decode cX4_odds 2 = .ok (.invokevirtual 95, 3) := by decide +kernel
theorem dX4_odds_5 : decode cX4_odds 5 = .ok (.ifCond .eq 22, 3) := by decide +kernel
theorem dX4_odds_8 : decode cX4_odds 8 = .ok (.iload_n 2, 1) := by decide +kernel
theorem dX4_odds_9 : decode cX4_odds 9 = .ok (.iconst 0, 1) := by decide +kernel
theorem dX4_odds_10 : decode cX4_odds 10 = .ok (.bipush 13, 2) := by decide +kernel
theorem dX4_odds_12 : decode cX4_odds 12 = .ok (.invokestatic 44, 3) := by decide +kernel
theorem dX4_odds_15 : decode cX4_odds 15 = .ok (.ifCond .eq 12, 3) := by decide +kernel
theorem dX4_odds_18 : decode cX4_odds 18 = .ok (.iload_n 3, 1) := by decide +kernel
theorem dX4_odds_19 : decode cX4_odds 19 = .ok (.iconst 0, 1) := by decide +kernel
theorem dX4_odds_20 : decode cX4_odds 20 = .ok (.iconst 1, 1) := by decide +kernel
theorem dX4_odds_21 : decode cX4_odds 21 = .ok (.invokestatic 44, 3) := by decide +kernel
theorem dX4_odds_24 : decode cX4_odds 24 = .ok (.ifCond .ne 10, 3) := by decide +kernel
theorem dX4_odds_27 : decode cX4_odds 27 = .ok (.aload_n 0, 1) := by decide +kernel
theorem dX4_odds_28 : decode cX4_odds 28 = .ok (.iconst 0, 1) := by decide +kernel
theorem dX4_odds_29 : decode cX4_odds 29 = .ok (.invokevirtual 51, 3) := by decide +kernel
theorem dX4_odds_32 : decode cX4_odds 32 = .ok (.i2l, 1) := by decide +kernel
theorem dX4_odds_33 : decode cX4_odds 33 = .ok (.lreturn, 1) := by decide +kernel
theorem dX4_odds_34 : decode cX4_odds 34 = .ok (.aload_n 0, 1) := by decide +kernel
theorem dX4_odds_35 : decode cX4_odds 35 = .ok (.getfield 10, 3) := by decide +kernel
theorem dX4_odds_38 : decode cX4_odds 38 = .ok (.iload_n 1, 1) := by decide +kernel
theorem dX4_odds_39 : decode cX4_odds 39 = .ok (.invokevirtual 200, 3) := by decide +kernel
theorem dX4_odds_42 : decode cX4_odds 42 = .ok (.istore 4, 2) := by decide +kernel
theorem dX4_odds_44 : decode cX4_odds 44 = .ok (.iload 4, 2) := by decide +kernel
theorem dX4_odds_46 : decode cX4_odds 46 = .ok (.bipush 21, 2) := by decide +kernel
theorem dX4_odds_48 : decode cX4_odds 48 = .ok (.invokestatic 203, 3) := by decide +kernel
theorem dX4_odds_51 : decode cX4_odds 51 = .ok (.istore 5, 2) := by decide +kernel
theorem dX4_odds_53 : decode cX4_odds 53 = .ok (.iload_n 3, 1) := by decide +kernel
theorem dX4_odds_54 : decode cX4_odds 54 = .ok (.ifCond .ne 8, 3) := by decide +kernel
theorem dX4_odds_57 : decode cX4_odds 57 = .ok (.iload 4, 2) := by decide +kernel
theorem dX4_odds_59 : decode cX4_odds 59 = .ok (.goto 5, 3) := by decide +kernel
theorem dX4_odds_62 : decode cX4_odds 62 = .ok (.bipush 21, 2) := by decide +kernel
theorem dX4_odds_64 : decode cX4_odds 64 = .ok (.iload 5, 2) := by decide +kernel
theorem dX4_odds_66 : decode cX4_odds 66 = .ok (.idiv, 1) := by decide +kernel
theorem dX4_odds_67 : decode cX4_odds 67 = .ok (.istore 6, 2) := by decide +kernel
theorem dX4_odds_69 : decode cX4_odds 69 = .ok (.lconst 1, 1) := by decide +kernel
theorem dX4_odds_70 : decode cX4_odds 70 = .ok (.lstore 7, 2) := by decide +kernel
theorem dX4_odds_72 : decode cX4_odds 72 = .ok (.iconst 0, 1) := by decide +kernel
theorem dX4_odds_73 : decode cX4_odds 73 = .ok (.istore 9, 2) := by decide +kernel
theorem dX4_odds_75 : decode cX4_odds 75 = .ok (.iload 9, 2) := by decide +kernel
theorem dX4_odds_77 : decode cX4_odds 77 = .ok (.iload_n 2, 1) := by decide +kernel
theorem dX4_odds_78 : decode cX4_odds 78 = .ok (.if_icmp .ge 17, 3) := by decide +kernel
theorem dX4_odds_81 : decode cX4_odds 81 = .ok (.lload 7, 2) := by decide +kernel
theorem dX4_odds_83 : decode cX4_odds 83 = .ok (.iload 6, 2) := by decide +kernel
theorem dX4_odds_85 : decode cX4_odds 85 = .ok (.i2l, 1) := by decide +kernel
theorem dX4_odds_86 : decode cX4_odds 86 = .ok (.lmul, 1) := by decide +kernel
theorem dX4_odds_87 : decode cX4_odds 87 = .ok (.lstore 7, 2) := by decide +kernel
theorem dX4_odds_89 : decode cX4_odds 89 = .ok (.iinc 9 1, 3) := by decide +kernel
theorem dX4_odds_92 : decode cX4_odds 92 = .ok (.goto (-17), 3) := by decide +kernel
theorem dX4_odds_95 : decode cX4_odds 95 = .ok (.lload 7, 2) := by decide +kernel
end
section
theorem dX4_odds_97 : decode cX4_odds 97 = .ok (.lreturn, 1) := by decide +kernel
theorem dX4_seed_0 : decode cX4_seed 0 = .ok (.aload_n 0, 1) := by decide +kernel
theorem dX4_seed_1 : decode cX4_seed 1 = .ok (.getfield 10, 3) := by decide +kernel
theorem dX4_seed_4 : decode cX4_seed 4 = .ok (.getfield 206, 3) := by decide +kernel
theorem dX4_seed_7 : decode cX4_seed 7 = .ok (.istore_n 2, 1) := by decide +kernel
theorem dX4_seed_8 : decode cX4_seed 8 = .ok (.aload_n 0, 1) := by decide +kernel
theorem dX4_seed_9 : decode cX4_seed 9 = .ok (.getfield 10, 3) := by decide +kernel
theorem dX4_seed_12 : decode cX4_seed 12 = .ok (.iload_n 1, 1) := by decide +kernel
theorem dX4_seed_13 : decode cX4_seed 13 = .ok (.putfield 206, 3) := by decide +kernel
theorem dX4_seed_16 : decode cX4_seed 16 = .ok (.iload_n 2, 1) := by decide +kernel
theorem dX4_seed_17 : decode cX4_seed 17 = .ok (.ireturn, 1) := by decide +kernel
theorem dX4_feed_0 : decode cX4_feed 0 = .ok (.iload_n 2, 1) := by decide +kernel
theorem dX4_feed_1 : decode cX4_feed 1 = .ok (.iconst 1, 1) := by decide +kernel
theorem dX4_feed_2 : decode cX4_feed 2 = .ok (.iconst 4, 1) := by decide +kernel
theorem dX4_feed_3 : decode cX4_feed 3 = .ok (.invokestatic 44, 3) := by decide +kernel
theorem dX4_feed_6 : decode cX4_feed 6 = .ok (.ifCond .ne 9, 3) := by decide +kernel
theorem dX4_feed_9 : decode cX4_feed 9 = .ok (.aload_n 0, 1) := by decide +kernel
theorem dX4_feed_10 : decode cX4_feed 10 = .ok (.iconst 0, 1) := by decide +kernel
theorem dX4_feed_11 : decode cX4_feed 11 = .ok (.invokevirtual 51, 3) := by decide +kernel
theorem dX4_feed_14 : decode cX4_feed 14 = .ok (.ireturn, 1) := by decide +kernel
theorem dX4_feed_15 : decode cX4_feed 15 = .ok (.aload_n 0, 1) := by decide +kernel
theorem dX4_feed_16 : decode cX4_feed 16 = .ok (.getfield 36, 3) := by decide +kernel
theorem dX4_feed_19 : decode cX4_feed 19 = .ok (.iload_n 2, 1) := by decide +kernel
theorem dX4_feed_20 : decode cX4_feed 20 = .ok (.invokevirtual 209, 3) := by decide +kernel
theorem dX4_feed_23 : decode cX4_feed 23 = .ok (.ifCond .ne 9, 3) := by decide +kernel
theorem dX4_feed_26 : decode cX4_feed 26 = .ok (.aload_n 0, 1) := by decide +kernel
theorem dX4_feed_27 : decode cX4_feed 27 = .ok (.iconst 1, 1) := by decide +kernel
theorem dX4_feed_28 : decode cX4_feed 28 = .ok (.invokevirtual 51, 3) := by decide +kernel
theorem dX4_feed_31 : decode cX4_feed 31 = .ok (.ireturn, 1) := by decide +kernel
theorem dX4_feed_32 : decode cX4_feed 32 = .ok (.iload_n 2, 1) := by decide +kernel
theorem dX4_feed_33 : decode cX4_feed 33 = .ok (.iconst 1, 1) := by decide +kernel
theorem dX4_feed_34 : decode cX4_feed 34 = .ok (.isub, 1) := by decide +kernel
theorem dX4_feed_35 : decode cX4_feed 35 = .ok (.istore_n 3, 1) := by decide +kernel
theorem dX4_feed_36 : decode cX4_feed 36 = .ok (.iload_n 3, 1) := by decide +kernel
theorem dX4_feed_37 : decode cX4_feed 37 = .ok (.ifCond .lt 26, 3) := by decide +kernel
theorem dX4_feed_40 : decode cX4_feed 40 = .ok (.aload_n 0, 1) := by decide +kernel
theorem dX4_feed_41 : decode cX4_feed 41 = .ok (.getfield 36, 3) := by decide +kernel
theorem dX4_feed_44 : decode cX4_feed 44 = .ok (.iload_n 1, 1) := by decide +kernel
theorem dX4_feed_45 : decode cX4_feed 45 = .ok (.bipush 8, 2) := by decide +kernel
theorem dX4_feed_47 : decode cX4_feed 47 = .ok (.iload_n 3, 1) := by decide +kernel
theorem dX4_feed_48 : decode cX4_feed 48 = .ok (.imul, 1) := by decide +kernel
theorem dX4_feed_49 : decode cX4_feed 49 = .ok (.iushr, 1) := by decide +kernel
theorem dX4_feed_50 : decode cX4_feed 50 = .ok (.sipush 255, 3) := by decide +kernel
theorem dX4_feed_53 : decode cX4_feed 53 = .ok (.iand, 1) := by decide +kernel
theorem dX4_feed_54 : decode cX4_feed 54 = .ok (.invokevirtual 212, 3) := by decide +kernel
theorem dX4_feed_57 : decode cX4_feed 57 = .ok (.iinc 3 (-1), 3) := by decide +kernel
theorem dX4_feed_60 : decode cX4_feed 60 = .ok (.goto (-24), 3) := by decide +kernel
theorem dX4_feed_63 : decode cX4_feed 63 = .ok (.aload_n 0, 1) := by decide +kernel
theorem dX4_feed_64 : decode cX4_feed 64 = .ok (.getfield 36, 3) := by decide +kernel
theorem dX4_feed_67 : decode cX4_feed 67 = .ok (.getfield 214, 3) := by decide +kernel
theorem dX4_feed_70 : decode cX4_feed 70 = .ok (.ireturn, 1) := by decide +kernel
theorem dX4_wipe_0 : decode cX4_wipe 0 = .ok (.aload_n 0, 1) := by decide +kernel
theorem dX4_wipe_1 : decode cX4_wipe 1 = .ok (.getfield 36, 3) := by decide +kernel
theorem dX4_wipe_4 : decode cX4_wipe 4 = .ok (.getfield 214, 3) := by decide +kernel
theorem dX4_wipe_7 : decode cX4_wipe 7 = .ok (.istore_n 1, 1) := by decide +kernel
theorem dX4_wipe_8 : decode cX4_wipe 8 = .ok (.aload_n 0, 1) := by decide +kernel
theorem dX4_wipe_9 : decode cX4_wipe 9 = .ok (.getfield 36, 3) := by decide +kernel
theorem dX4_wipe_12 : decode cX4_wipe 12 = .ok (.iconst 0, 1) := by decide +kernel
theorem dX4_wipe_13 : decode cX4_wipe 13 = .ok (.putfield 214, 3) := by decide +kernel
theorem dX4_wipe_16 : decode cX4_wipe 16 = .ok (.iload_n 1, 1) := by decide +kernel
theorem dX4_wipe_17 : decode cX4_wipe 17 = .ok (.ireturn, 1) := by decide +kernel
theorem dX4_text_0 : decode cX4_text 0 = .ok (.aload_n 0, 1) := by decide +kernel
theorem dX4_text_1 : decode cX4_text 1 = .ok (.invokevirtual 152, 3) := by decide +kernel
theorem dX4_text_4 : decode cX4_text 4 = .ok (.aload_n 0, 1) := by decide +kernel
theorem dX4_text_5 : decode cX4_text 5 = .ok (.getfield 36, 3) := by decide +kernel
theorem dX4_text_8 : decode cX4_text 8 = .ok (.aload_n 0, 1) := by decide +kernel
theorem dX4_text_9 : decode cX4_text 9 = .ok (.getfield 19, 3) := by decide +kernel
theorem dX4_text_12 : decode cX4_text 12 = .ok (.invokevirtual 217, 3) := by decide +kernel
theorem dX4_text_15 : decode cX4_text 15 = .ok (.istore_n 1, 1) := by decide +kernel
theorem dX4_text_16 : decode cX4_text 16 = .ok (.iload_n 1, 1) := by decide +kernel
theorem dX4_text_17 : decode cX4_text 17 = .ok (.ifCond .lt 14, 3) := by decide +kernel
theorem dX4_text_20 : decode cX4_text 20 = .ok (.aload_n 0, 1) := by decide +kernel
theorem dX4_text_21 : decode cX4_text 21 = .ok (.getfield 10, 3) := by decide +kernel
theorem dX4_text_24 : decode cX4_text 24 = .ok (.aload_n 0, 1) := by decide +kernel
theorem dX4_text_25 : decode cX4_text 25 = .ok (.getfield 19, 3) := by decide +kernel
theorem dX4_text_28 : decode cX4_text 28 = .ok (.invokevirtual 221, 3) := by decide +kernel
theorem dX4_text_31 : decode cX4_text 31 = .ok (.aload_n 0, 1) := by decide +kernel
theorem dX4_text_32 : decode cX4_text 32 = .ok (.getfield 36, 3) := by decide +kernel
theorem dX4_text_35 : decode cX4_text 35 = .ok (.iconst 0, 1) := by decide +kernel
theorem dX4_text_36 : decode cX4_text 36 = .ok (.putfield 214, 3) := by decide +kernel
theorem dX4_text_39 : decode cX4_text 39 = .ok (.iload_n 1, 1) := by decide +kernel
theorem dX4_text_40 : decode cX4_text 40 = .ok (.ireturn, 1) := by decide +kernel
theorem dX4_hold_0 : decode cX4_hold 0 = .ok (.iload_n 1, 1) := by decide +kernel
theorem dX4_hold_1 : decode cX4_hold 1 = .ok (.invokestatic 225, 3) := by decide +kernel
theorem dX4_hold_4 : decode cX4_hold 4 = .ok (.ifCond .eq 16, 3) := by decide +kernel
theorem dX4_hold_7 : decode cX4_hold 7 = .ok (.iload_n 2, 1) := by decide +kernel
theorem dX4_hold_8 : decode cX4_hold 8 = .ok (.iconst (-1), 1) := by decide +kernel
theorem dX4_hold_9 : decode cX4_hold 9 = .ok (.if_icmp .eq 17, 3) := by decide +kernel
theorem dX4_hold_12 : decode cX4_hold 12 = .ok (.aload_n 0, 1) := by decide +kernel
theorem dX4_hold_13 : decode cX4_hold 13 = .ok (.iload_n 2, 1) := by decide +kernel
theorem dX4_hold_14 : decode cX4_hold 14 = .ok (.invokevirtual 95, 3) := by decide +kernel
theorem dX4_hold_17 : decode cX4_hold 17 = .ok (.ifCond .ne 9, 3) := by decide +kernel
theorem dX4_hold_20 : decode cX4_hold 20 = .ok (.aload_n 0, 1) := by decide +kernel
theorem dX4_hold_21 : decode cX4_hold 21 = .ok (.iconst 0, 1) := by decide +kernel
theorem dX4_hold_22 : decode cX4_hold 22 = .ok (.invokevirtual 51, 3) := by decide +kernel
theorem dX4_hold_25 : decode cX4_hold 25 = .ok (.ireturn, 1) := by decide +kernel
theorem dX4_hold_26 : decode cX4_hold 26 = .ok (.aload_n 0, 1) := by decide +kernel
theorem dX4_hold_27 : decode cX4_hold 27 = .ok (.getfield 10, 3) := by decide +kernel
theorem dX4_hold_30 : decode cX4_hold 30 = .ok (.getfield 228, 3) := by decide +kernel
theorem dX4_hold_33 : decode cX4_hold 33 = .ok (.iload_n 1, 1) := by decide +kernel
theorem dX4_hold_34 : decode cX4_hold 34 = .ok (.iload_n 2, 1) := by decide +kernel
theorem dX4_hold_35 : decode cX4_hold 35 = .ok (.iastore, 1) := by decide +kernel
theorem dX4_hold_36 : decode cX4_hold 36 = .ok (.iconst 1, 1) := by decide +kernel
theorem dX4_hold_37 : decode cX4_hold 37 = .ok (.ireturn, 1) := by decide +kernel
theorem dX4_as_0 : decode cX4_as 0 = .ok (.iload_n 1, 1) := by decide +kernel
theorem dX4_as_1 : decode cX4_as 1 = .ok (.invokestatic 225, 3) := by decide +kernel
theorem dX4_as_4 : decode cX4_as 4 = .ok (.ifCond .eq 10, 3) := by decide +kernel
theorem dX4_as_7 : decode cX4_as 7 = .ok (.iload_n 2, 1) := by decide +kernel
theorem dX4_as_8 : decode cX4_as 8 = .ok (.invokestatic 85, 3) := by decide +kernel
theorem dX4_as_11 : decode cX4_as 11 = .ok (.ifCond .ne 9, 3) := by decide +kernel
theorem dX4_as_14 : decode cX4_as 14 = .ok (.aload_n 0, 1) := by decide +kernel
theorem dX4_as_15 : decode cX4_as 15 = .ok (.iconst 0, 1) := by decide +kernel
theorem dX4_as_16 : decode cX4_as 16 = .ok (.invokevirtual 51, 3) := by decide +kernel
theorem dX4_as_19 : decode cX4_as 19 = .ok (.ireturn, 1) := by decide +kernel
theorem dX4_as_20 : decode cX4_as 20 = .ok (.aload_n 0, 1) := by decide +kernel
theorem dX4_as_21 : decode cX4_as 21 = .ok (.getfield 10, 3) := by decide +kernel
theorem dX4_as_24 : decode cX4_as 24 = .ok (.getfield 228, 3) := by decide +kernel
theorem dX4_as_27 : decode cX4_as 27 = .ok (.iload_n 1, 1) := by decide +kernel
theorem dX4_as_28 : decode cX4_as 28 = .ok (.iaload, 1) := by decide +kernel
theorem dX4_as_29 : decode cX4_as 29 = .ok (.istore_n 3, 1) := by decide +kernel
theorem dX4_as_30 : decode cX4_as 30 = .ok (.aload_n 0, 1) := by decide +kernel
theorem dX4_as_31 : decode cX4_as 31 = .ok (.iload_n 3, 1) := by decide +kernel
theorem dX4_as_32 : decode cX4_as 32 = .ok (.invokevirtual 95, 3) := by decide +kernel
theorem dX4_as_35 : decode cX4_as 35 = .ok (.ifCond .ne 9, 3) := by decide +kernel
theorem dX4_as_38 : decode cX4_as 38 = .ok (.aload_n 0, 1) := by decide +kernel
theorem dX4_as_39 : decode cX4_as 39 = .ok (.iconst 5, 1) := by decide +kernel
theorem dX4_as_40 : decode cX4_as 40 = .ok (.invokevirtual 51, 3) := by decide +kernel
theorem dX4_as_43 : decode cX4_as 43 = .ok (.ireturn, 1) := by decide +kernel
theorem dX4_as_44 : decode cX4_as 44 = .ok (.aload_n 0, 1) := by decide +kernel
theorem dX4_as_45 : decode cX4_as 45 = .ok (.getfield 10, 3) := by decide +kernel
theorem dX4_as_48 : decode cX4_as 48 = .ok (.getfield 101, 3) := by decide +kernel
theorem dX4_as_51 : decode cX4_as 51 = .ok (.iload_n 3, 1) := by decide +kernel
theorem dX4_as_52 : decode cX4_as 52 = .ok (.iaload, 1) := by decide +kernel
theorem dX4_as_53 : decode cX4_as 53 = .ok (.iload_n 2, 1) := by decide +kernel
theorem dX4_as_54 : decode cX4_as 54 = .ok (.invokestatic 231, 3) := by decide +kernel
theorem dX4_as_57 : decode cX4_as 57 = .ok (.ifCond .ne 9, 3) := by decide +kernel
theorem dX4_as_60 : decode cX4_as 60 = .ok (.aload_n 0, 1) := by decide +kernel
theorem dX4_as_61 : decode cX4_as 61 = .ok (.iconst 2, 1) := by decide +kernel
theorem dX4_as_62 : decode cX4_as 62 = .ok (.invokevirtual 51, 3) := by decide +kernel
theorem dX4_as_65 : decode cX4_as 65 = .ok (.ireturn, 1) := by decide +kernel
theorem dX4_as_66 : decode cX4_as 66 = .ok (.iload_n 3, 1) := by decide +kernel
theorem dX4_as_67 : decode cX4_as 67 = .ok (.ireturn, 1) := by decide +kernel
theorem dX4_sheet_0 : decode cX4_sheet 0 = .ok (.iload_n 1, 1) := by decide +kernel
theorem dX4_sheet_1 : decode cX4_sheet 1 = .ok (.invokestatic 234, 3) := by decide +kernel
theorem dX4_sheet_4 : decode cX4_sheet 4 = .ok (.ifCond .eq 10, 3) := by decide +kernel
theorem dX4_sheet_7 : decode cX4_sheet 7 = .ok (.iload_n 2, 1) := by decide +kernel
theorem dX4_sheet_8 : decode cX4_sheet 8 = .ok (.invokestatic 237, 3) := by decide +kernel
theorem dX4_sheet_11 : decode cX4_sheet 11 = .ok (.ifCond .ne 9, 3) := by decide +kernel
theorem dX4_sheet_14 : decode cX4_sheet 14 = .ok (.aload_n 0, 1) := by decide +kernel
theorem dX4_sheet_15 : decode cX4_sheet 15 = .ok (.iconst 0, 1) := by decide +kernel
theorem dX4_sheet_16 : decode cX4_sheet 16 = .ok (.invokevirtual 51, 3) := by decide +kernel
theorem dX4_sheet_19 : decode cX4_sheet 19 = .ok (.ireturn, 1) := by decide +kernel
theorem dX4_sheet_20 : decode cX4_sheet 20 = .ok (.iload_n 3, 1) := by decide +kernel
theorem dX4_sheet_21 : decode cX4_sheet 21 = .ok (.ifCond .ge 10, 3) := by decide +kernel
theorem dX4_sheet_24 : decode cX4_sheet 24 = .ok (.aload_n 0, 1) := by decide +kernel
theorem dX4_sheet_25 : decode cX4_sheet 25 = .ok (.bipush 6, 2) := by decide +kernel
theorem dX4_sheet_27 : decode cX4_sheet 27 = .ok (.invokevirtual 51, 3) := by decide +kernel
theorem dX4_sheet_30 : decode cX4_sheet 30 = .ok (.ireturn, 1) := by decide +kernel
theorem dX4_sheet_31 : decode cX4_sheet 31 = .ok (.iload_n 3, 1) := by decide +kernel
theorem dX4_sheet_32 : decode cX4_sheet 32 = .ok (.bipush 40, 2) := by decide +kernel
theorem dX4_sheet_34 : decode cX4_sheet 34 = .ok (.if_icmp .le 9, 3) := by decide +kernel
theorem dX4_sheet_37 : decode cX4_sheet 37 = .ok (.aload_n 0, 1) := by decide +kernel
theorem dX4_sheet_38 : decode cX4_sheet 38 = .ok (.iconst 0, 1) := by decide +kernel
theorem dX4_sheet_39 : decode cX4_sheet 39 = .ok (.invokevirtual 51, 3) := by decide +kernel
theorem dX4_sheet_42 : decode cX4_sheet 42 = .ok (.ireturn, 1) := by decide +kernel
theorem dX4_sheet_43 : decode cX4_sheet 43 = .ok (.aload_n 0, 1) := by decide +kernel
theorem dX4_sheet_44 : decode cX4_sheet 44 = .ok (.getfield 29, 3) := by decide +kernel
theorem dX4_sheet_47 : decode cX4_sheet 47 = .ok (.iload_n 1, 1) := by decide +kernel
theorem dX4_sheet_48 : decode cX4_sheet 48 = .ok (.iload_n 2, 1) := by decide +kernel
theorem dX4_sheet_49 : decode cX4_sheet 49 = .ok (.iload_n 3, 1) := by decide +kernel
theorem dX4_sheet_50 : decode cX4_sheet 50 = .ok (.invokevirtual 240, 3) := by decide +kernel
theorem dX4_sheet_53 : decode cX4_sheet 53 = .ok (.ireturn, 1) := by decide +kernel
theorem dX4_write_0 : decode cX4_write 0 = .ok (.aload_n 0, 1) := by decide +kernel
theorem dX4_write_1 : decode cX4_write 1 = .ok (.iload_n 1, 1) := by decide +kernel
theorem dX4_write_2 : decode cX4_write 2 = .ok (.invokevirtual 244, 3) := by decide +kernel
theorem dX4_write_5 : decode cX4_write 5 = .ok (.istore 4, 2) := by decide +kernel
theorem dX4_write_7 : decode cX4_write 7 = .ok (.iload 4, 2) := by decide +kernel
theorem dX4_write_9 : decode cX4_write 9 = .ok (.ifCond .lt 10, 3) := by decide +kernel
theorem dX4_write_12 : decode cX4_write 12 = .ok (.aload_n 0, 1) := by decide +kernel
theorem dX4_write_13 : decode cX4_write 13 = .ok (.iload 4, 2) := by decide +kernel
theorem dX4_write_15 : decode cX4_write 15 = .ok (.invokevirtual 51, 3) := by decide +kernel
theorem dX4_write_18 : decode cX4_write 18 = .ok (.ireturn, 1) := by decide +kernel
theorem dX4_write_19 : decode cX4_write 19 = .ok (.iload_n 2, 1) := by decide +kernel
theorem dX4_write_20 : decode cX4_write 20 = .ok (.iconst 0, 1) := by decide +kernel
theorem dX4_write_21 : decode cX4_write 21 = .ok (.aload_n 0, 1) := by decide +kernel
theorem dX4_write_22 : decode cX4_write 22 = .ok (.getfield 29, 3) := by decide +kernel
theorem dX4_write_25 : decode cX4_write 25 = .ok (.getfield 247, 3) := by decide +kernel
theorem dX4_write_28 : decode cX4_write 28 = .ok (.iload_n 1, 1) := by decide +kernel
theorem dX4_write_29 : decode cX4_write 29 = .ok (.iaload, 1) := by decide +kernel
theorem dX4_write_30 : decode cX4_write 30 = .ok (.iconst 1, 1) := by decide +kernel
theorem dX4_write_31 : decode cX4_write 31 = .ok (.isub, 1) := by decide +kernel
theorem dX4_write_32 : decode cX4_write 32 = .ok (.invokestatic 44, 3) := by decide +kernel
theorem dX4_write_35 : decode cX4_write 35 = .ok (.ifCond .ne 9, 3) := by decide +kernel
theorem dX4_write_38 : decode cX4_write 38 = .ok (.aload_n 0, 1) := by decide +kernel
theorem dX4_write_39 : decode cX4_write 39 = .ok (.iconst 0, 1) := by decide +kernel
theorem dX4_write_40 : decode cX4_write 40 = .ok (.invokevirtual 51, 3) := by decide +kernel
theorem dX4_write_43 : decode cX4_write 43 = .ok (.ireturn, 1) := by decide +kernel
theorem dX4_write_44 : decode cX4_write 44 = .ok (.aload_n 0, 1) := by decide +kernel
theorem dX4_write_45 : decode cX4_write 45 = .ok (.getfield 29, 3) := by decide +kernel
theorem dX4_write_48 : decode cX4_write 48 = .ok (.iload_n 1, 1) := by decide +kernel
theorem dX4_write_49 : decode cX4_write 49 = .ok (.iload_n 2, 1) := by decide +kernel
theorem dX4_write_50 : decode cX4_write 50 = .ok (.iload_n 3, 1) := by decide +kernel
theorem dX4_write_51 : decode cX4_write 51 = .ok (.invokevirtual 249, 3) := by decide +kernel
theorem dX4_write_54 : decode cX4_write 54 = .ok (.iconst 1, 1) := by decide +kernel
theorem dX4_write_55 : decode cX4_write 55 = .ok (.ireturn, 1) := by decide +kernel
theorem dX4_copy_0 : decode cX4_copy 0 = .ok (.iload_n 1, 1) := by decide +kernel
theorem dX4_copy_1 : decode cX4_copy 1 = .ok (.invokestatic 234, 3) := by decide +kernel
theorem dX4_copy_4 : decode cX4_copy 4 = .ok (.ifCond .eq 10, 3) := by decide +kernel
theorem dX4_copy_7 : decode cX4_copy 7 = .ok (.iload_n 3, 1) := by decide +kernel
theorem dX4_copy_8 : decode cX4_copy 8 = .ok (.invokestatic 234, 3) := by decide +kernel
theorem dX4_copy_11 : decode cX4_copy 11 = .ok (.ifCond .ne 9, 3) := by decide +kernel
theorem dX4_copy_14 : decode cX4_copy 14 = .ok (.aload_n 0, 1) := by decide +kernel
theorem dX4_copy_15 : decode cX4_copy 15 = .ok (.iconst 0, 1) := by decide +kernel
theorem dX4_copy_16 : decode cX4_copy 16 = .ok (.invokevirtual 51, 3) := by decide +kernel
theorem dX4_copy_19 : decode cX4_copy 19 = .ok (.ireturn, 1) := by decide +kernel
theorem dX4_copy_20 : decode cX4_copy 20 = .ok (.aload_n 0, 1) := by decide +kernel
theorem dX4_copy_21 : decode cX4_copy 21 = .ok (.getfield 29, 3) := by decide +kernel
theorem dX4_copy_24 : decode cX4_copy 24 = .ok (.iload_n 1, 1) := by decide +kernel
theorem dX4_copy_25 : decode cX4_copy 25 = .ok (.invokevirtual 253, 3) := by decide +kernel
theorem dX4_copy_28 : decode cX4_copy 28 = .ok (.ifCond .ne 14, 3) := by decide +kernel
theorem dX4_copy_31 : decode cX4_copy 31 = .ok (.aload_n 0, 1) := by decide +kernel
theorem dX4_copy_32 : decode cX4_copy 32 = .ok (.getfield 29, 3) := by decide +kernel
theorem dX4_copy_35 : decode cX4_copy 35 = .ok (.iload_n 3, 1) := by decide +kernel
theorem dX4_copy_36 : decode cX4_copy 36 = .ok (.invokevirtual 253, 3) := by decide +kernel
theorem dX4_copy_39 : decode cX4_copy 39 = .ok (.ifCond .eq 9, 3) := by decide +kernel
theorem dX4_copy_42 : decode cX4_copy 42 = .ok (.aload_n 0, 1) := by decide +kernel
theorem dX4_copy_43 : decode cX4_copy 43 = .ok (.iconst 5, 1) := by decide +kernel
theorem dX4_copy_44 : decode cX4_copy 44 = .ok (.invokevirtual 51, 3) := by decide +kernel
theorem dX4_copy_47 : decode cX4_copy 47 = .ok (.ireturn, 1) := by decide +kernel
theorem dX4_copy_48 : decode cX4_copy 48 = .ok (.aload_n 0, 1) := by decide +kernel
theorem dX4_copy_49 : decode cX4_copy 49 = .ok (.getfield 29, 3) := by decide +kernel
theorem dX4_copy_52 : decode cX4_copy 52 = .ok (.getfield 256, 3) := by decide +kernel
theorem dX4_copy_55 : decode cX4_copy 55 = .ok (.iload_n 1, 1) := by decide +kernel
theorem dX4_copy_56 : decode cX4_copy 56 = .ok (.iaload, 1) := by decide +kernel
theorem dX4_copy_57 : decode cX4_copy 57 = .ok (.aload_n 0, 1) := by decide +kernel
theorem dX4_copy_58 : decode cX4_copy 58 = .ok (.getfield 29, 3) := by decide +kernel
theorem dX4_copy_61 : decode cX4_copy 61 = .ok (.getfield 256, 3) := by decide +kernel
theorem dX4_copy_64 : decode cX4_copy 64 = .ok (.iload_n 3, 1) := by decide +kernel
theorem dX4_copy_65 : decode cX4_copy 65 = .ok (.iaload, 1) := by decide +kernel
theorem dX4_copy_66 : decode cX4_copy 66 = .ok (.if_icmp .eq 9, 3) := by decide +kernel
theorem dX4_copy_69 : decode cX4_copy 69 = .ok (.aload_n 0, 1) := by decide +kernel
theorem dX4_copy_70 : decode cX4_copy 70 = .ok (.iconst 2, 1) := by decide +kernel
theorem dX4_copy_71 : decode cX4_copy 71 = .ok (.invokevirtual 51, 3) := by decide +kernel
theorem dX4_copy_74 : decode cX4_copy 74 = .ok (.ireturn, 1) := by decide +kernel
theorem dX4_copy_75 : decode cX4_copy 75 = .ok (.aload_n 0, 1) := by decide +kernel
theorem dX4_copy_76 : decode cX4_copy 76 = .ok (.getfield 29, 3) := by decide +kernel
theorem dX4_copy_79 : decode cX4_copy 79 = .ok (.iload_n 1, 1) := by decide +kernel
theorem dX4_copy_80 : decode cX4_copy 80 = .ok (.iload_n 2, 1) := by decide +kernel
theorem dX4_copy_81 : decode cX4_copy 81 = .ok (.iload 5, 2) := by decide +kernel
theorem dX4_copy_83 : decode cX4_copy 83 = .ok (.invokevirtual 259, 3) := by decide +kernel
theorem dX4_copy_86 : decode cX4_copy 86 = .ok (.ifCond .eq 18, 3) := by decide +kernel
theorem dX4_copy_89 : decode cX4_copy 89 = .ok (.aload_n 0, 1) := by decide +kernel
theorem dX4_copy_90 : decode cX4_copy 90 = .ok (.getfield 29, 3) := by decide +kernel
theorem dX4_copy_93 : decode cX4_copy 93 = .ok (.iload_n 3, 1) := by decide +kernel
theorem dX4_copy_94 : decode cX4_copy 94 = .ok (.iload 4, 2) := by decide +kernel
theorem dX4_copy_96 : decode cX4_copy 96 = .ok (.iload 5, 2) := by decide +kernel
theorem dX4_copy_98 : decode cX4_copy 98 = .ok (.invokevirtual 259, 3) := by decide +kernel
theorem dX4_copy_101 : decode cX4_copy 101 = .ok (.ifCond .ne 9, 3) := by decide +kernel
theorem dX4_copy_104 : decode cX4_copy 104 = .ok (.aload_n 0, 1) := by decide +kernel
theorem dX4_copy_105 : decode cX4_copy 105 = .ok (.iconst 0, 1) := by decide +kernel
theorem dX4_copy_106 : decode cX4_copy 106 = .ok (.invokevirtual 51, 3) := by decide +kernel
theorem dX4_copy_109 : decode cX4_copy 109 = .ok (.ireturn, 1) := by decide +kernel
theorem dX4_copy_110 : decode cX4_copy 110 = .ok (.aload_n 0, 1) := by decide +kernel
theorem dX4_copy_111 : decode cX4_copy 111 = .ok (.getfield 29, 3) := by decide +kernel
theorem dX4_copy_114 : decode cX4_copy 114 = .ok (.getfield 262, 3) := by decide +kernel
theorem dX4_copy_117 : decode cX4_copy 117 = .ok (.iload_n 1, 1) := by decide +kernel
theorem dX4_copy_118 : decode cX4_copy 118 = .ok (.aaload, 1) := by decide +kernel
theorem dX4_copy_119 : decode cX4_copy 119 = .ok (.iload_n 2, 1) := by decide +kernel
theorem dX4_copy_120 : decode cX4_copy 120 = .ok (.aload_n 0, 1) := by decide +kernel
theorem dX4_copy_121 : decode cX4_copy 121 = .ok (.getfield 29, 3) := by decide +kernel
theorem dX4_copy_124 : decode cX4_copy 124 = .ok (.getfield 262, 3) := by decide +kernel
theorem dX4_copy_127 : decode cX4_copy 127 = .ok (.iload_n 3, 1) := by decide +kernel
theorem dX4_copy_128 : decode cX4_copy 128 = .ok (.aaload, 1) := by decide +kernel
theorem dX4_copy_129 : decode cX4_copy 129 = .ok (.iload 4, 2) := by decide +kernel
theorem dX4_copy_131 : decode cX4_copy 131 = .ok (.iload 5, 2) := by decide +kernel
theorem dX4_copy_133 : decode cX4_copy 133 = .ok (.invokestatic 266, 3) := by decide +kernel
theorem dX4_copy_136 : decode cX4_copy 136 = .ok (.iload 5, 2) := by decide +kernel
theorem dX4_copy_138 : decode cX4_copy 138 = .ok (.ireturn, 1) := by decide +kernel
theorem dX4_load_0 : decode cX4_load 0 = .ok (.aload_n 0, 1) := by decide +kernel
theorem dX4_load_1 : decode cX4_load 1 = .ok (.iload_n 1, 1) := by decide +kernel
theorem dX4_load_2 : decode cX4_load 2 = .ok (.invokevirtual 244, 3) := by decide +kernel
theorem dX4_load_5 : decode cX4_load 5 = .ok (.istore_n 2, 1) := by decide +kernel
theorem dX4_load_6 : decode cX4_load 6 = .ok (.iload_n 2, 1) := by decide +kernel
theorem dX4_load_7 : decode cX4_load 7 = .ok (.ifCond .lt 9, 3) := by decide +kernel
theorem dX4_load_10 : decode cX4_load 10 = .ok (.aload_n 0, 1) := by decide +kernel
theorem dX4_load_11 : decode cX4_load 11 = .ok (.iload_n 2, 1) := by decide +kernel
theorem dX4_load_12 : decode cX4_load 12 = .ok (.invokevirtual 51, 3) := by decide +kernel
theorem dX4_load_15 : decode cX4_load 15 = .ok (.ireturn, 1) := by decide +kernel
theorem dX4_load_16 : decode cX4_load 16 = .ok (.aload_n 0, 1) := by decide +kernel
theorem dX4_load_17 : decode cX4_load 17 = .ok (.getfield 29, 3) := by decide +kernel
theorem dX4_load_20 : decode cX4_load 20 = .ok (.getfield 247, 3) := by decide +kernel
theorem dX4_load_23 : decode cX4_load 23 = .ok (.iload_n 1, 1) := by decide +kernel
theorem dX4_load_24 : decode cX4_load 24 = .ok (.iaload, 1) := by decide +kernel
theorem dX4_load_25 : decode cX4_load 25 = .ok (.bipush 16, 2) := by decide +kernel
theorem dX4_load_27 : decode cX4_load 27 = .ok (.invokestatic 272, 3) := by decide +kernel
theorem dX4_load_30 : decode cX4_load 30 = .ok (.istore_n 3, 1) := by decide +kernel
theorem dX4_load_31 : decode cX4_load 31 = .ok (.iconst 0, 1) := by decide +kernel
theorem dX4_load_32 : decode cX4_load 32 = .ok (.istore 4, 2) := by decide +kernel
theorem dX4_load_34 : decode cX4_load 34 = .ok (.iload 4, 2) := by decide +kernel
theorem dX4_load_36 : decode cX4_load 36 = .ok (.iload_n 3, 1) := by decide +kernel
theorem dX4_load_37 : decode cX4_load 37 = .ok (.if_icmp .ge 52, 3) := by decide +kernel
theorem dX4_load_40 : decode cX4_load 40 = .ok (.aload_n 0, 1) := by decide +kernel
theorem dX4_load_41 : decode cX4_load 41 = .ok (.getfield 29, 3) := by decide +kernel
theorem dX4_load_44 : decode cX4_load 44 = .ok (.getfield 262, 3) := by decide +kernel
theorem dX4_load_47 : decode cX4_load 47 = .ok (.iload_n 1, 1) := by decide +kernel
theorem dX4_load_48 : decode cX4_load 48 = .ok (.aaload, 1) := by decide +kernel
theorem dX4_load_49 : decode cX4_load 49 = .ok (.iload 4, 2) := by decide +kernel
theorem dX4_load_51 : decode cX4_load 51 = .ok (.iaload, 1) := by decide +kernel
theorem dX4_load_52 : decode cX4_load 52 = .ok (.iconst 0, 1) := by decide +kernel
theorem dX4_load_53 : decode cX4_load 53 = .ok (.bipush 40, 2) := by decide +kernel
theorem dX4_load_55 : decode cX4_load 55 = .ok (.invokestatic 44, 3) := by decide +kernel
theorem dX4_load_58 : decode cX4_load 58 = .ok (.ifCond .eq 31, 3) := by decide +kernel
theorem dX4_load_61 : decode cX4_load 61 = .ok (.aload_n 0, 1) := by decide +kernel
theorem dX4_load_62 : decode cX4_load 62 = .ok (.getfield 10, 3) := by decide +kernel
theorem dX4_load_65 : decode cX4_load 65 = .ok (.getfield 69, 3) := by decide +kernel
theorem dX4_load_68 : decode cX4_load 68 = .ok (.iload 4, 2) := by decide +kernel
theorem dX4_load_70 : decode cX4_load 70 = .ok (.aload_n 0, 1) := by decide +kernel
theorem dX4_load_71 : decode cX4_load 71 = .ok (.getfield 29, 3) := by decide +kernel
theorem dX4_load_74 : decode cX4_load 74 = .ok (.getfield 262, 3) := by decide +kernel
theorem dX4_load_77 : decode cX4_load 77 = .ok (.iload_n 1, 1) := by decide +kernel
theorem dX4_load_78 : decode cX4_load 78 = .ok (.aaload, 1) := by decide +kernel
theorem dX4_load_79 : decode cX4_load 79 = .ok (.iload 4, 2) := by decide +kernel
theorem dX4_load_81 : decode cX4_load 81 = .ok (.iaload, 1) := by decide +kernel
theorem dX4_load_82 : decode cX4_load 82 = .ok (.iastore, 1) := by decide +kernel
theorem dX4_load_83 : decode cX4_load 83 = .ok (.iinc 4 1, 3) := by decide +kernel
theorem dX4_load_86 : decode cX4_load 86 = .ok (.goto (-52), 3) := by decide +kernel
theorem dX4_load_89 : decode cX4_load 89 = .ok (.iload 4, 2) := by decide +kernel
theorem dX4_load_91 : decode cX4_load 91 = .ok (.ireturn, 1) := by decide +kernel
theorem dX4_judge_0 : decode cX4_judge 0 = .ok (.aload_n 0, 1) := by decide +kernel
theorem dX4_judge_1 : decode cX4_judge 1 = .ok (.iload_n 1, 1) := by decide +kernel
theorem dX4_judge_2 : decode cX4_judge 2 = .ok (.invokevirtual 244, 3) := by decide +kernel
theorem dX4_judge_5 : decode cX4_judge 5 = .ok (.istore_n 2, 1) := by decide +kernel
theorem dX4_judge_6 : decode cX4_judge 6 = .ok (.iload_n 2, 1) := by decide +kernel
theorem dX4_judge_7 : decode cX4_judge 7 = .ok (.ifCond .lt 9, 3) := by decide +kernel
theorem dX4_judge_10 : decode cX4_judge 10 = .ok (.aload_n 0, 1) := by decide +kernel
theorem dX4_judge_11 : decode cX4_judge 11 = .ok (.iload_n 2, 1) := by decide +kernel
theorem dX4_judge_12 : decode cX4_judge 12 = .ok (.invokevirtual 51, 3) := by decide +kernel
theorem dX4_judge_15 : decode cX4_judge 15 = .ok (.ireturn, 1) := by decide +kernel
theorem dX4_judge_16 : decode cX4_judge 16 = .ok (.iconst 0, 1) := by decide +kernel
theorem dX4_judge_17 : decode cX4_judge 17 = .ok (.istore_n 3, 1) := by decide +kernel
theorem dX4_judge_18 : decode cX4_judge 18 = .ok (.iload_n 3, 1) := by decide +kernel
theorem dX4_judge_19 : decode cX4_judge 19 = .ok (.aload_n 0, 1) := by decide +kernel
theorem dX4_judge_20 : decode cX4_judge 20 = .ok (.getfield 29, 3) := by decide +kernel
theorem dX4_judge_23 : decode cX4_judge 23 = .ok (.getfield 247, 3) := by decide +kernel
theorem dX4_judge_26 : decode cX4_judge 26 = .ok (.iload_n 1, 1) := by decide +kernel
theorem dX4_judge_27 : decode cX4_judge 27 = .ok (.iaload, 1) := by decide +kernel
theorem dX4_judge_28 : decode cX4_judge 28 = .ok (.if_icmp .ge 44, 3) := by decide +kernel
theorem dX4_judge_31 : decode cX4_judge 31 = .ok (.aload_n 0, 1) := by decide +kernel
theorem dX4_judge_32 : decode cX4_judge 32 = .ok (.iload_n 3, 1) := by decide +kernel
theorem dX4_judge_33 : decode cX4_judge 33 = .ok (.invokevirtual 95, 3) := by decide +kernel
theorem dX4_judge_36 : decode cX4_judge 36 = .ok (.ifCond .eq 26, 3) := by decide +kernel
theorem dX4_judge_39 : decode cX4_judge 39 = .ok (.aload_n 0, 1) := by decide +kernel
theorem dX4_judge_40 : decode cX4_judge 40 = .ok (.getfield 10, 3) := by decide +kernel
theorem dX4_judge_43 : decode cX4_judge 43 = .ok (.getfield 158, 3) := by decide +kernel
theorem dX4_judge_46 : decode cX4_judge 46 = .ok (.iload_n 3, 1) := by decide +kernel
theorem dX4_judge_47 : decode cX4_judge 47 = .ok (.iaload, 1) := by decide +kernel
theorem dX4_judge_48 : decode cX4_judge 48 = .ok (.aload_n 0, 1) := by decide +kernel
theorem dX4_judge_49 : decode cX4_judge 49 = .ok (.getfield 29, 3) := by decide +kernel
theorem dX4_judge_52 : decode cX4_judge 52 = .ok (.getfield 262, 3) := by decide +kernel
theorem dX4_judge_55 : decode cX4_judge 55 = .ok (.iload_n 1, 1) := by decide +kernel
theorem dX4_judge_56 : decode cX4_judge 56 = .ok (.aaload, 1) := by decide +kernel
theorem dX4_judge_57 : decode cX4_judge 57 = .ok (.iload_n 3, 1) := by decide +kernel
theorem dX4_judge_58 : decode cX4_judge 58 = .ok (.iaload, 1) := by decide +kernel
theorem dX4_judge_59 : decode cX4_judge 59 = .ok (.if_icmp .eq 7, 3) := by decide +kernel
theorem dX4_judge_62 : decode cX4_judge 62 = .ok (.iconst 1, 1) := by decide +kernel
theorem dX4_judge_63 : decode cX4_judge 63 = .ok (.iload_n 3, 1) := by decide +kernel
theorem dX4_judge_64 : decode cX4_judge 64 = .ok (.iadd, 1) := by decide +kernel
theorem dX4_judge_65 : decode cX4_judge 65 = .ok (.ireturn, 1) := by decide +kernel
theorem dX4_judge_66 : decode cX4_judge 66 = .ok (.iinc 3 1, 3) := by decide +kernel
theorem dX4_judge_69 : decode cX4_judge 69 = .ok (.goto (-51), 3) := by decide +kernel
theorem dX4_judge_72 : decode cX4_judge 72 = .ok (.iconst 0, 1) := by decide +kernel
theorem dX4_judge_73 : decode cX4_judge 73 = .ok (.ireturn, 1) := by decide +kernel
theorem dX4_image_0 : decode cX4_image 0 = .ok (.aload_n 0, 1) := by decide +kernel
theorem dX4_image_1 : decode cX4_image 1 = .ok (.getfield 16, 3) := by decide +kernel
theorem dX4_image_4 : decode cX4_image 4 = .ok (.aload_n 0, 1) := by decide +kernel
theorem dX4_image_5 : decode cX4_image 5 = .ok (.getfield 10, 3) := by decide +kernel
theorem dX4_image_8 : decode cX4_image 8 = .ok (.invokevirtual 221, 3) := by decide +kernel
theorem dX4_image_11 : decode cX4_image 11 = .ok (.aload_n 0, 1) := by decide +kernel
theorem dX4_image_12 : decode cX4_image 12 = .ok (.iconst 1, 1) := by decide +kernel
theorem dX4_image_13 : decode cX4_image 13 = .ok (.putfield 22, 3) := by decide +kernel
theorem dX4_image_16 : decode cX4_image 16 = .ok (.iconst 1, 1) := by decide +kernel
theorem dX4_image_17 : decode cX4_image 17 = .ok (.ireturn, 1) := by decide +kernel
theorem dX4_undo_0 : decode cX4_undo 0 = .ok (.aload_n 0, 1) := by decide +kernel
theorem dX4_undo_1 : decode cX4_undo 1 = .ok (.getfield 22, 3) := by decide +kernel
theorem dX4_undo_4 : decode cX4_undo 4 = .ok (.ifCond .ne 9, 3) := by decide +kernel
theorem dX4_undo_7 : decode cX4_undo 7 = .ok (.aload_n 0, 1) := by decide +kernel
theorem dX4_undo_8 : decode cX4_undo 8 = .ok (.iconst 3, 1) := by decide +kernel
theorem dX4_undo_9 : decode cX4_undo 9 = .ok (.invokevirtual 51, 3) := by decide +kernel
theorem dX4_undo_12 : decode cX4_undo 12 = .ok (.ireturn, 1) := by decide +kernel
theorem dX4_undo_13 : decode cX4_undo 13 = .ok (.aload_n 0, 1) := by decide +kernel
theorem dX4_undo_14 : decode cX4_undo 14 = .ok (.getfield 10, 3) := by decide +kernel
theorem dX4_undo_17 : decode cX4_undo 17 = .ok (.aload_n 0, 1) := by decide +kernel
theorem dX4_undo_18 : decode cX4_undo 18 = .ok (.getfield 16, 3) := by decide +kernel
theorem dX4_undo_21 : decode cX4_undo 21 = .ok (.invokevirtual 221, 3) := by decide +kernel
theorem dX4_undo_24 : decode cX4_undo 24 = .ok (.aload_n 0, 1) := by decide +kernel
theorem dX4_undo_25 : decode cX4_undo 25 = .ok (.getfield 10, 3) := by decide +kernel
theorem dX4_undo_28 : decode cX4_undo 28 = .ok (.getfield 109, 3) := by decide +kernel
theorem dX4_undo_31 : decode cX4_undo 31 = .ok (.ireturn, 1) := by decide +kernel
theorem dX4_tear_0 : decode cX4_tear 0 = .ok (.aload_n 0, 1) := by decide +kernel
theorem dX4_tear_1 : decode cX4_tear 1 = .ok (.getfield 22, 3) := by decide +kernel
theorem dX4_tear_4 : decode cX4_tear 4 = .ok (.ifCond .eq 7, 3) := by decide +kernel
theorem dX4_tear_7 : decode cX4_tear 7 = .ok (.iconst 1, 1) := by decide +kernel
theorem dX4_tear_8 : decode cX4_tear 8 = .ok (.goto 4, 3) := by decide +kernel
theorem dX4_tear_11 : decode cX4_tear 11 = .ok (.iconst 0, 1) := by decide +kernel
theorem dX4_tear_12 : decode cX4_tear 12 = .ok (.istore_n 1, 1) := by decide +kernel
theorem dX4_tear_13 : decode cX4_tear 13 = .ok (.aload_n 0, 1) := by decide +kernel
theorem dX4_tear_14 : decode cX4_tear 14 = .ok (.iconst 0, 1) := by decide +kernel
theorem dX4_tear_15 : decode cX4_tear 15 = .ok (.putfield 22, 3) := by decide +kernel
theorem dX4_tear_18 : decode cX4_tear 18 = .ok (.iload_n 1, 1) := by decide +kernel
theorem dX4_tear_19 : decode cX4_tear 19 = .ok (.ireturn, 1) := by decide +kernel
theorem dX4_count_0 : decode cX4_count 0 = .ok (.iload_n 1, 1) := by decide +kernel
theorem dX4_count_1 : decode cX4_count 1 = .ok (.tableswitch 111 0 7 #[47, 55, 63, 71, 79, 87, 95, 103], 47) := by decide +kernel
theorem dX4_count_48 : decode cX4_count 48 = .ok (.aload_n 0, 1) := by decide +kernel
theorem dX4_count_49 : decode cX4_count 49 = .ok (.getfield 10, 3) := by decide +kernel
theorem dX4_count_52 : decode cX4_count 52 = .ok (.getfield 109, 3) := by decide +kernel
theorem dX4_count_55 : decode cX4_count 55 = .ok (.ireturn, 1) := by decide +kernel
theorem dX4_count_56 : decode cX4_count 56 = .ok (.aload_n 0, 1) := by decide +kernel
theorem dX4_count_57 : decode cX4_count 57 = .ok (.getfield 10, 3) := by decide +kernel
theorem dX4_count_60 : decode cX4_count 60 = .ok (.getfield 176, 3) := by decide +kernel
theorem dX4_count_63 : decode cX4_count 63 = .ok (.ireturn, 1) := by decide +kernel
theorem dX4_count_64 : decode cX4_count 64 = .ok (.aload_n 0, 1) := by decide +kernel
theorem dX4_count_65 : decode cX4_count 65 = .ok (.getfield 10, 3) := by decide +kernel
theorem dX4_count_68 : decode cX4_count 68 = .ok (.getfield 59, 3) := by decide +kernel
theorem dX4_count_71 : decode cX4_count 71 = .ok (.ireturn, 1) := by decide +kernel
theorem dX4_count_72 : decode cX4_count 72 = .ok (.aload_n 0, 1) := by decide +kernel
theorem dX4_count_73 : decode cX4_count 73 = .ok (.getfield 10, 3) := by decide +kernel
theorem dX4_count_76 : decode cX4_count 76 = .ok (.getfield 62, 3) := by decide +kernel
theorem dX4_count_79 : decode cX4_count 79 = .ok (.ireturn, 1) := by decide +kernel
theorem dX4_count_80 : decode cX4_count 80 = .ok (.aload_n 0, 1) := by decide +kernel
theorem dX4_count_81 : decode cX4_count 81 = .ok (.getfield 10, 3) := by decide +kernel
theorem dX4_count_84 : decode cX4_count 84 = .ok (.invokevirtual 277, 3) := by decide +kernel
theorem dX4_count_87 : decode cX4_count 87 = .ok (.ireturn, 1) := by decide +kernel
theorem dX4_count_88 : decode cX4_count 88 = .ok (.aload_n 0, 1) := by decide +kernel
theorem dX4_count_89 : decode cX4_count 89 = .ok (.getfield 36, 3) := by decide +kernel
theorem dX4_count_92 : decode cX4_count 92 = .ok (.getfield 214, 3) := by decide +kernel
theorem dX4_count_95 : decode cX4_count 95 = .ok (.ireturn, 1) := by decide +kernel
theorem dX4_count_96 : decode cX4_count 96 = .ok (.aload_n 0, 1) := by decide +kernel
theorem dX4_count_97 : decode cX4_count 97 = .ok (.getfield 10, 3) := by decide +kernel
theorem dX4_count_100 : decode cX4_count 100 = .ok (.getfield 206, 3) := by decide +kernel
theorem dX4_count_103 : decode cX4_count 103 = .ok (.ireturn, 1) := by decide +kernel
theorem dX4_count_104 : decode cX4_count 104 = .ok (.aload_n 0, 1) := by decide +kernel
theorem dX4_count_105 : decode cX4_count 105 = .ok (.getfield 10, 3) := by decide +kernel
theorem dX4_count_108 : decode cX4_count 108 = .ok (.invokevirtual 280, 3) := by decide +kernel
theorem dX4_count_111 : decode cX4_count 111 = .ok (.ireturn, 1) := by decide +kernel
theorem dX4_count_112 : decode cX4_count 112 = .ok (.aload_n 0, 1) := by decide +kernel
theorem dX4_count_113 : decode cX4_count 113 = .ok (.iconst 0, 1) := by decide +kernel
theorem dX4_count_114 : decode cX4_count 114 = .ok (.invokevirtual 51, 3) := by decide +kernel
theorem dX4_count_117 : decode cX4_count 117 = .ok (.ireturn, 1) := by decide +kernel
theorem dX4_status_0 : decode cX4_status 0 = .ok (.iload_n 1, 1) := by decide +kernel
theorem dX4_status_1 : decode cX4_status 1 = .ok (.iconst (-1), 1) := by decide +kernel
theorem dX4_status_2 : decode cX4_status 2 = .ok (.bipush 6, 2) := by decide +kernel
theorem dX4_status_4 : decode cX4_status 4 = .ok (.invokestatic 44, 3) := by decide +kernel
theorem dX4_status_7 : decode cX4_status 7 = .ok (.ifCond .ne 9, 3) := by decide +kernel
theorem dX4_status_10 : decode cX4_status 10 = .ok (.aload_n 0, 1) := by decide +kernel
theorem dX4_status_11 : decode cX4_status 11 = .ok (.iconst 0, 1) := by decide +kernel
theorem dX4_status_12 : decode cX4_status 12 = .ok (.invokevirtual 51, 3) := by decide +kernel
theorem dX4_status_15 : decode cX4_status 15 = .ok (.ireturn, 1) := by decide +kernel
theorem dX4_status_16 : decode cX4_status 16 = .ok (.iload_n 1, 1) := by decide +kernel
theorem dX4_status_17 : decode cX4_status 17 = .ok (.ifCond .lt 10, 3) := by decide +kernel
theorem dX4_status_20 : decode cX4_status 20 = .ok (.aload_n 0, 1) := by decide +kernel
theorem dX4_status_21 : decode cX4_status 21 = .ok (.getfield 40, 3) := by decide +kernel
theorem dX4_status_24 : decode cX4_status 24 = .ok (.iload_n 1, 1) := by decide +kernel
theorem dX4_status_25 : decode cX4_status 25 = .ok (.iaload, 1) := by decide +kernel
theorem dX4_status_26 : decode cX4_status 26 = .ok (.ireturn, 1) := by decide +kernel
theorem dX4_status_27 : decode cX4_status 27 = .ok (.iconst 0, 1) := by decide +kernel
theorem dX4_status_28 : decode cX4_status 28 = .ok (.istore_n 2, 1) := by decide +kernel
theorem dX4_status_29 : decode cX4_status 29 = .ok (.iconst 0, 1) := by decide +kernel
theorem dX4_status_30 : decode cX4_status 30 = .ok (.istore_n 3, 1) := by decide +kernel
theorem dX4_status_31 : decode cX4_status 31 = .ok (.iload_n 3, 1) := by decide +kernel
theorem dX4_status_32 : decode cX4_status 32 = .ok (.bipush 7, 2) := by decide +kernel
theorem dX4_status_34 : decode cX4_status 34 = .ok (.if_icmp .ge 18, 3) := by decide +kernel
theorem dX4_status_37 : decode cX4_status 37 = .ok (.iload_n 2, 1) := by decide +kernel
theorem dX4_status_38 : decode cX4_status 38 = .ok (.aload_n 0, 1) := by decide +kernel
theorem dX4_status_39 : decode cX4_status 39 = .ok (.getfield 40, 3) := by decide +kernel
theorem dX4_status_42 : decode cX4_status 42 = .ok (.iload_n 3, 1) := by decide +kernel
theorem dX4_status_43 : decode cX4_status 43 = .ok (.iaload, 1) := by decide +kernel
theorem dX4_status_44 : decode cX4_status 44 = .ok (.iadd, 1) := by decide +kernel
theorem dX4_status_45 : decode cX4_status 45 = .ok (.istore_n 2, 1) := by decide +kernel
theorem dX4_status_46 : decode cX4_status 46 = .ok (.iinc 3 1, 3) := by decide +kernel
theorem dX4_status_49 : decode cX4_status 49 = .ok (.goto (-18), 3) := by decide +kernel
theorem dX4_status_52 : decode cX4_status 52 = .ok (.iload_n 2, 1) := by decide +kernel
theorem dX4_status_53 : decode cX4_status 53 = .ok (.ireturn, 1) := by decide +kernel
theorem dX4_found_0 : decode cX4_found 0 = .ok (.iload_n 1, 1) := by decide +kernel
theorem dX4_found_1 : decode cX4_found 1 = .ok (.iconst 0, 1) := by decide +kernel
theorem dX4_found_2 : decode cX4_found 2 = .ok (.bipush 6, 2) := by decide +kernel
theorem dX4_found_4 : decode cX4_found 4 = .ok (.invokestatic 44, 3) := by decide +kernel
theorem dX4_found_7 : decode cX4_found 7 = .ok (.ifCond .eq 13, 3) := by decide +kernel
theorem dX4_found_10 : decode cX4_found 10 = .ok (.aload_n 0, 1) := by decide +kernel
theorem dX4_found_11 : decode cX4_found 11 = .ok (.getfield 40, 3) := by decide +kernel
theorem dX4_found_14 : decode cX4_found 14 = .ok (.iload_n 1, 1) := by decide +kernel
theorem dX4_found_15 : decode cX4_found 15 = .ok (.dup2, 1) := by decide +kernel
theorem dX4_found_16 : decode cX4_found 16 = .ok (.iaload, 1) := by decide +kernel
theorem dX4_found_17 : decode cX4_found 17 = .ok (.iconst 1, 1) := by decide +kernel
theorem dX4_found_18 : decode cX4_found 18 = .ok (.iadd, 1) := by decide +kernel
theorem dX4_found_19 : decode cX4_found 19 = .ok (.iastore, 1) := by decide +kernel
theorem dX4_found_20 : decode cX4_found 20 = .ok (.ldc_w 283, 3) := by decide +kernel
theorem dX4_found_23 : decode cX4_found 23 = .ok (.iload_n 1, 1) := by decide +kernel
theorem dX4_found_24 : decode cX4_found 24 = .ok (.isub, 1) := by decide +kernel
theorem dX4_found_25 : decode cX4_found 25 = .ok (.ireturn, 1) := by decide +kernel
theorem dX4_within_0 : decode cX4_within 0 = .ok (.iload_n 0, 1) := by decide +kernel
theorem dX4_within_1 : decode cX4_within 1 = .ok (.iload_n 1, 1) := by decide +kernel
theorem dX4_within_2 : decode cX4_within 2 = .ok (.if_icmp .lt 12, 3) := by decide +kernel
theorem dX4_within_5 : decode cX4_within 5 = .ok (.iload_n 0, 1) := by decide +kernel
theorem dX4_within_6 : decode cX4_within 6 = .ok (.iload_n 2, 1) := by decide +kernel
theorem dX4_within_7 : decode cX4_within 7 = .ok (.if_icmp .gt 7, 3) := by decide +kernel
theorem dX4_within_10 : decode cX4_within 10 = .ok (.iconst 1, 1) := by decide +kernel
theorem dX4_within_11 : decode cX4_within 11 = .ok (.goto 4, 3) := by decide +kernel
theorem dX4_within_14 : decode cX4_within 14 = .ok (.iconst 0, 1) := by decide +kernel
theorem dX4_within_15 : decode cX4_within 15 = .ok (.ireturn, 1) := by decide +kernel
theorem dX4_isCell_0 : decode cX4_isCell 0 = .ok (.iload_n 0, 1) := by decide +kernel
theorem dX4_isCell_1 : decode cX4_isCell 1 = .ok (.iconst 0, 1) := by decide +kernel
theorem dX4_isCell_2 : decode cX4_isCell 2 = .ok (.bipush 15, 2) := by decide +kernel
theorem dX4_isCell_4 : decode cX4_isCell 4 = .ok (.invokestatic 44, 3) := by decide +kernel
theorem dX4_isCell_7 : decode cX4_isCell 7 = .ok (.ireturn, 1) := by decide +kernel
theorem dX4_isListed_0 : decode cX4_isListed 0 = .ok (.iload_n 0, 1) := by decide +kernel
theorem dX4_isListed_1 : decode cX4_isListed 1 = .ok (.iconst 0, 1) := by decide +kernel
theorem dX4_isListed_2 : decode cX4_isListed 2 = .ok (.iconst 5, 1) := by decide +kernel
theorem dX4_isListed_3 : decode cX4_isListed 3 = .ok (.invokestatic 44, 3) := by decide +kernel
theorem dX4_isListed_6 : decode cX4_isListed 6 = .ok (.ireturn, 1) := by decide +kernel
theorem dX4_isMeasure_0 : decode cX4_isMeasure 0 = .ok (.iload_n 0, 1) := by decide +kernel
theorem dX4_isMeasure_1 : decode cX4_isMeasure 1 = .ok (.bipush 16, 2) := by decide +kernel
theorem dX4_isMeasure_3 : decode cX4_isMeasure 3 = .ok (.bipush 36, 2) := by decide +kernel
theorem dX4_isMeasure_5 : decode cX4_isMeasure 5 = .ok (.invokestatic 44, 3) := by decide +kernel
theorem dX4_isMeasure_8 : decode cX4_isMeasure 8 = .ok (.ireturn, 1) := by decide +kernel
theorem dX4_isKind_0 : decode cX4_isKind 0 = .ok (.iload_n 0, 1) := by decide +kernel
theorem dX4_isKind_1 : decode cX4_isKind 1 = .ok (.iconst 0, 1) := by decide +kernel
theorem dX4_isKind_2 : decode cX4_isKind 2 = .ok (.bipush 6, 2) := by decide +kernel
theorem dX4_isKind_4 : decode cX4_isKind 4 = .ok (.invokestatic 44, 3) := by decide +kernel
theorem dX4_isKind_7 : decode cX4_isKind 7 = .ok (.ireturn, 1) := by decide +kernel
theorem dX4_isSpot_0 : decode cX4_isSpot 0 = .ok (.iload_n 0, 1) := by decide +kernel
theorem dX4_isSpot_1 : decode cX4_isSpot 1 = .ok (.iconst 0, 1) := by decide +kernel
theorem dX4_isSpot_2 : decode cX4_isSpot 2 = .ok (.bipush 9, 2) := by decide +kernel
theorem dX4_isSpot_4 : decode cX4_isSpot 4 = .ok (.invokestatic 44, 3) := by decide +kernel
theorem dX4_isSpot_7 : decode cX4_isSpot 7 = .ok (.ireturn, 1) := by decide +kernel
theorem dX4_isGuest_0 : decode cX4_isGuest 0 = .ok (.iload_n 1, 1) := by decide +kernel
theorem dX4_isGuest_1 : decode cX4_isGuest 1 = .ok (.iconst 0, 1) := by decide +kernel
theorem dX4_isGuest_2 : decode cX4_isGuest 2 = .ok (.aload_n 0, 1) := by decide +kernel
theorem dX4_isGuest_3 : decode cX4_isGuest 3 = .ok (.getfield 10, 3) := by decide +kernel
theorem dX4_isGuest_6 : decode cX4_isGuest 6 = .ok (.getfield 176, 3) := by decide +kernel
theorem dX4_isGuest_9 : decode cX4_isGuest 9 = .ok (.iconst 1, 1) := by decide +kernel
theorem dX4_isGuest_10 : decode cX4_isGuest 10 = .ok (.isub, 1) := by decide +kernel
theorem dX4_isGuest_11 : decode cX4_isGuest 11 = .ok (.invokestatic 44, 3) := by decide +kernel
theorem dX4_isGuest_14 : decode cX4_isGuest 14 = .ok (.ireturn, 1) := by decide +kernel
theorem dX4_startTrial_0 : decode cX4_startTrial 0 = .ok (.aload_n 0, 1) := by decide +kernel
theorem dX4_startTrial_1 : decode cX4_startTrial 1 = .ok (.getfield 19, 3) := by decide +kernel
theorem dX4_startTrial_4 : decode cX4_startTrial 4 = .ok (.aload_n 0, 1) := by decide +kernel
theorem dX4_startTrial_5 : decode cX4_startTrial 5 = .ok (.getfield 10, 3) := by decide +kernel
theorem dX4_startTrial_8 : decode cX4_startTrial 8 = .ok (.invokevirtual 221, 3) := by decide +kernel
theorem dX4_startTrial_11 : decode cX4_startTrial 11 = .ok (.return_, 1) := by decide +kernel
theorem dX4_lackOfSheet_0 : decode cX4_lackOfSheet 0 = .ok (.iload_n 1, 1) := by decide +kernel
theorem dX4_lackOfSheet_1 : decode cX4_lackOfSheet 1 = .ok (.invokestatic 234, 3) := by decide +kernel
theorem dX4_lackOfSheet_4 : decode cX4_lackOfSheet 4 = .ok (.ifCond .ne 5, 3) := by decide +kernel
theorem dX4_lackOfSheet_7 : decode cX4_lackOfSheet 7 = .ok (.iconst 0, 1) := by decide +kernel
theorem dX4_lackOfSheet_8 : decode cX4_lackOfSheet 8 = .ok (.ireturn, 1) := by decide +kernel
theorem dX4_lackOfSheet_9 : decode cX4_lackOfSheet 9 = .ok (.aload_n 0, 1) := by decide +kernel
theorem dX4_lackOfSheet_10 : decode cX4_lackOfSheet 10 = .ok (.getfield 29, 3) := by decide +kernel
theorem dX4_lackOfSheet_13 : decode cX4_lackOfSheet 13 = .ok (.iload_n 1, 1) := by decide +kernel
theorem dX4_lackOfSheet_14 : decode cX4_lackOfSheet 14 = .ok (.invokevirtual 253, 3) := by decide +kernel
theorem dX4_lackOfSheet_17 : decode cX4_lackOfSheet 17 = .ok (.ifCond .eq 7, 3) := by decide +kernel
theorem dX4_lackOfSheet_20 : decode cX4_lackOfSheet 20 = .ok (.iconst 5, 1) := by decide +kernel
theorem dX4_lackOfSheet_21 : decode cX4_lackOfSheet 21 = .ok (.goto 4, 3) := by decide +kernel
theorem dX4_lackOfSheet_24 : decode cX4_lackOfSheet 24 = .ok (.iconst (-1), 1) := by decide +kernel
theorem dX4_lackOfSheet_25 : decode cX4_lackOfSheet 25 = .ok (.ireturn, 1) := by decide +kernel
theorem dX4_lackOfTold_0 : decode cX4_lackOfTold 0 = .ok (.aload_n 0, 1) := by decide +kernel
theorem dX4_lackOfTold_1 : decode cX4_lackOfTold 1 = .ok (.iload_n 1, 1) := by decide +kernel
theorem dX4_lackOfTold_2 : decode cX4_lackOfTold 2 = .ok (.invokevirtual 244, 3) := by decide +kernel
theorem dX4_lackOfTold_5 : decode cX4_lackOfTold 5 = .ok (.istore_n 3, 1) := by decide +kernel
theorem dX4_lackOfTold_6 : decode cX4_lackOfTold 6 = .ok (.iload_n 3, 1) := by decide +kernel
theorem dX4_lackOfTold_7 : decode cX4_lackOfTold 7 = .ok (.ifCond .lt 5, 3) := by decide +kernel
theorem dX4_lackOfTold_10 : decode cX4_lackOfTold 10 = .ok (.iload_n 3, 1) := by decide +kernel
theorem dX4_lackOfTold_11 : decode cX4_lackOfTold 11 = .ok (.ireturn, 1) := by decide +kernel
theorem dX4_lackOfTold_12 : decode cX4_lackOfTold 12 = .ok (.aload_n 0, 1) := by decide +kernel
theorem dX4_lackOfTold_13 : decode cX4_lackOfTold 13 = .ok (.iload_n 2, 1) := by decide +kernel
theorem dX4_lackOfTold_14 : decode cX4_lackOfTold 14 = .ok (.invokevirtual 95, 3) := by decide +kernel
theorem dX4_lackOfTold_17 : decode cX4_lackOfTold 17 = .ok (.ifCond .eq 7, 3) := by decide +kernel
theorem dX4_lackOfTold_20 : decode cX4_lackOfTold 20 = .ok (.iconst (-1), 1) := by decide +kernel
theorem dX4_lackOfTold_21 : decode cX4_lackOfTold 21 = .ok (.goto 4, 3) := by decide +kernel
theorem dX4_lackOfTold_24 : decode cX4_lackOfTold 24 = .ok (.iconst 0, 1) := by decide +kernel
theorem dX4_lackOfTold_25 : decode cX4_lackOfTold 25 = .ok (.ireturn, 1) := by decide +kernel
theorem dX4_trialGoesAsTold_0 : decode cX4_trialGoesAsTold 0 = .ok (.iconst 0, 1) := by decide +kernel
theorem dX4_trialGoesAsTold_1 : decode cX4_trialGoesAsTold 1 = .ok (.istore_n 3, 1) := by decide +kernel
theorem dX4_trialGoesAsTold_2 : decode cX4_trialGoesAsTold 2 = .ok (.iload_n 3, 1) := by decide +kernel
theorem dX4_trialGoesAsTold_3 : decode cX4_trialGoesAsTold 3 = .ok (.aload_n 0, 1) := by decide +kernel
theorem dX4_trialGoesAsTold_4 : decode cX4_trialGoesAsTold 4 = .ok (.getfield 29, 3) := by decide +kernel
theorem dX4_trialGoesAsTold_7 : decode cX4_trialGoesAsTold 7 = .ok (.getfield 247, 3) := by decide +kernel
theorem dX4_trialGoesAsTold_10 : decode cX4_trialGoesAsTold 10 = .ok (.iload_n 1, 1) := by decide +kernel
theorem dX4_trialGoesAsTold_11 : decode cX4_trialGoesAsTold 11 = .ok (.iaload, 1) := by decide +kernel
theorem dX4_trialGoesAsTold_12 : decode cX4_trialGoesAsTold 12 = .ok (.if_icmp .ge 51, 3) := by decide +kernel
theorem dX4_trialGoesAsTold_15 : decode cX4_trialGoesAsTold 15 = .ok (.aload_n 0, 1) := by decide +kernel
theorem dX4_trialGoesAsTold_16 : decode cX4_trialGoesAsTold 16 = .ok (.getfield 19, 3) := by decide +kernel
theorem dX4_trialGoesAsTold_19 : decode cX4_trialGoesAsTold 19 = .ok (.invokevirtual 155, 3) := by decide +kernel
theorem dX4_trialGoesAsTold_22 : decode cX4_trialGoesAsTold 22 = .ok (.aload_n 0, 1) := by decide +kernel
theorem dX4_trialGoesAsTold_23 : decode cX4_trialGoesAsTold 23 = .ok (.getfield 29, 3) := by decide +kernel
theorem dX4_trialGoesAsTold_26 : decode cX4_trialGoesAsTold 26 = .ok (.getfield 262, 3) := by decide +kernel
theorem dX4_trialGoesAsTold_29 : decode cX4_trialGoesAsTold 29 = .ok (.iload_n 1, 1) := by decide +kernel
theorem dX4_trialGoesAsTold_30 : decode cX4_trialGoesAsTold 30 = .ok (.aaload, 1) := by decide +kernel
theorem dX4_trialGoesAsTold_31 : decode cX4_trialGoesAsTold 31 = .ok (.iload_n 3, 1) := by decide +kernel
theorem dX4_trialGoesAsTold_32 : decode cX4_trialGoesAsTold 32 = .ok (.iaload, 1) := by decide +kernel
theorem dX4_trialGoesAsTold_33 : decode cX4_trialGoesAsTold 33 = .ok (.istore 4, 2) := by decide +kernel
theorem dX4_trialGoesAsTold_35 : decode cX4_trialGoesAsTold 35 = .ok (.iload 4, 2) := by decide +kernel
theorem dX4_trialGoesAsTold_37 : decode cX4_trialGoesAsTold 37 = .ok (.iconst (-1), 1) := by decide +kernel
theorem dX4_trialGoesAsTold_38 : decode cX4_trialGoesAsTold 38 = .ok (.if_icmp .eq 19, 3) := by decide +kernel
theorem dX4_trialGoesAsTold_41 : decode cX4_trialGoesAsTold 41 = .ok (.iload 4, 2) := by decide +kernel
theorem dX4_trialGoesAsTold_43 : decode cX4_trialGoesAsTold 43 = .ok (.aload_n 0, 1) := by decide +kernel
theorem dX4_trialGoesAsTold_44 : decode cX4_trialGoesAsTold 44 = .ok (.getfield 19, 3) := by decide +kernel
theorem dX4_trialGoesAsTold_47 : decode cX4_trialGoesAsTold 47 = .ok (.getfield 158, 3) := by decide +kernel
theorem dX4_trialGoesAsTold_50 : decode cX4_trialGoesAsTold 50 = .ok (.iload_n 2, 1) := by decide +kernel
theorem dX4_trialGoesAsTold_51 : decode cX4_trialGoesAsTold 51 = .ok (.iaload, 1) := by decide +kernel
theorem dX4_trialGoesAsTold_52 : decode cX4_trialGoesAsTold 52 = .ok (.if_icmp .eq 5, 3) := by decide +kernel
theorem dX4_trialGoesAsTold_55 : decode cX4_trialGoesAsTold 55 = .ok (.iconst 0, 1) := by decide +kernel
theorem dX4_trialGoesAsTold_56 : decode cX4_trialGoesAsTold 56 = .ok (.ireturn, 1) := by decide +kernel
theorem dX4_trialGoesAsTold_57 : decode cX4_trialGoesAsTold 57 = .ok (.iinc 3 1, 3) := by decide +kernel
theorem dX4_trialGoesAsTold_60 : decode cX4_trialGoesAsTold 60 = .ok (.goto (-58), 3) := by decide +kernel
theorem dX4_trialGoesAsTold_63 : decode cX4_trialGoesAsTold 63 = .ok (.iconst 1, 1) := by decide +kernel
theorem dX4_trialGoesAsTold_64 : decode cX4_trialGoesAsTold 64 = .ok (.ireturn, 1) := by decide +kernel
theorem dX4_commonDivisor_0 : decode cX4_commonDivisor 0 = .ok (.iload_n 0, 1) := by decide +kernel
theorem dX4_commonDivisor_1 : decode cX4_commonDivisor 1 = .ok (.istore_n 2, 1) := by decide +kernel
theorem dX4_commonDivisor_2 : decode cX4_commonDivisor 2 = .ok (.iload_n 1, 1) := by decide +kernel
theorem dX4_commonDivisor_3 : decode cX4_commonDivisor 3 = .ok (.istore_n 3, 1) := by decide +kernel
theorem dX4_commonDivisor_4 : decode cX4_commonDivisor 4 = .ok (.iconst 0, 1) := by decide +kernel
theorem dX4_commonDivisor_5 : decode cX4_commonDivisor 5 = .ok (.istore 4, 2) := by decide +kernel
theorem dX4_commonDivisor_7 : decode cX4_commonDivisor 7 = .ok (.iload 4, 2) := by decide +kernel
theorem dX4_commonDivisor_9 : decode cX4_commonDivisor 9 = .ok (.bipush 32, 2) := by decide +kernel
theorem dX4_commonDivisor_11 : decode cX4_commonDivisor 11 = .ok (.if_icmp .ge 23, 3) := by decide +kernel
theorem dX4_commonDivisor_14 : decode cX4_commonDivisor 14 = .ok (.iload_n 2, 1) := by decide +kernel
theorem dX4_commonDivisor_15 : decode cX4_commonDivisor 15 = .ok (.ifCond .eq 19, 3) := by decide +kernel
theorem dX4_commonDivisor_18 : decode cX4_commonDivisor 18 = .ok (.iload_n 3, 1) := by decide +kernel
theorem dX4_commonDivisor_19 : decode cX4_commonDivisor 19 = .ok (.iload_n 2, 1) := by decide +kernel
theorem dX4_commonDivisor_20 : decode cX4_commonDivisor 20 = .ok (.irem, 1) := by decide +kernel
theorem dX4_commonDivisor_21 : decode cX4_commonDivisor 21 = .ok (.istore 5, 2) := by decide +kernel
theorem dX4_commonDivisor_23 : decode cX4_commonDivisor 23 = .ok (.iload_n 2, 1) := by decide +kernel
theorem dX4_commonDivisor_24 : decode cX4_commonDivisor 24 = .ok (.istore_n 3, 1) := by decide +kernel
theorem dX4_commonDivisor_25 : decode cX4_commonDivisor 25 = .ok (.iload 5, 2) := by decide +kernel
theorem dX4_commonDivisor_27 : decode cX4_commonDivisor 27 = .ok (.istore_n 2, 1) := by decide +kernel
theorem dX4_commonDivisor_28 : decode cX4_commonDivisor 28 = .ok (.iinc 4 1, 3) := by decide +kernel
theorem dX4_commonDivisor_31 : decode cX4_commonDivisor 31 = .ok (.goto (-24), 3) := by decide +kernel
theorem dX4_commonDivisor_34 : decode cX4_commonDivisor 34 = .ok (.iload_n 3, 1) := by decide +kernel
theorem dX4_commonDivisor_35 : decode cX4_commonDivisor 35 = .ok (.ireturn, 1) := by decide +kernel
end
section
theorem dX5_init_0 : decode cX5_init 0 = .ok (.aload_n 0, 1) := by decide +kernel
theorem dX5_init_1 : decode cX5_init 1 = .ok (.invokespecial 1, 3) := by decide +kernel
theorem dX5_init_4 : decode cX5_init 4 = .ok (.aload_n 0, 1) := by decide +kernel
theorem dX5_init_5 : decode cX5_init 5 = .ok (.bipush 86, 2) := by decide +kernel
theorem dX5_init_7 : decode cX5_init 7 = .ok (.newarray .int, 2) := by decide +kernel
theorem dX5_init_9 : decode cX5_init 9 = .ok (.putfield 9, 3) := by decide +kernel
theorem dX5_init_12 : decode cX5_init 12 = .ok (.aload_n 0, 1) := by decide +kernel
theorem dX5_init_13 : decode cX5_init 13 = .ok (.bipush 86, 2) := by decide +kernel
theorem dX5_init_15 : decode cX5_init 15 = .ok (.newarray .int, 2) := by decide +kernel
theorem dX5_init_17 : decode cX5_init 17 = .ok (.putfield 13, 3) := by decide +kernel
theorem dX5_init_20 : decode cX5_init 20 = .ok (.aload_n 0, 1) := by decide +kernel
theorem dX5_init_21 : decode cX5_init 21 = .ok (.bipush 86, 2) := by decide +kernel
theorem dX5_init_23 : decode cX5_init 23 = .ok (.newarray .int, 2) := by decide +kernel
theorem dX5_init_25 : decode cX5_init 25 = .ok (.putfield 16, 3) := by decide +kernel
theorem dX5_init_28 : decode cX5_init 28 = .ok (.aload_n 0, 1) := by decide +kernel
theorem dX5_init_29 : decode cX5_init 29 = .ok (.bipush 8, 2) := by decide +kernel
theorem dX5_init_31 : decode cX5_init 31 = .ok (.newarray .int, 2) := by decide +kernel
theorem dX5_init_33 : decode cX5_init 33 = .ok (.putfield 19, 3) := by decide +kernel
theorem dX5_init_36 : decode cX5_init 36 = .ok (.aload_n 0, 1) := by decide +kernel
theorem dX5_init_37 : decode cX5_init 37 = .ok (.bipush 120, 2) := by decide +kernel
theorem dX5_init_39 : decode cX5_init 39 = .ok (.newarray .int, 2) := by decide +kernel
theorem dX5_init_41 : decode cX5_init 41 = .ok (.putfield 22, 3) := by decide +kernel
theorem dX5_init_44 : decode cX5_init 44 = .ok (.aload_n 0, 1) := by decide +kernel
theorem dX5_init_45 : decode cX5_init 45 = .ok (.bipush 7, 2) := by decide +kernel
theorem dX5_init_47 : decode cX5_init 47 = .ok (.anewarray 25, 3) := by decide +kernel
theorem dX5_init_50 : decode cX5_init 50 = .ok (.dup, 1) := by decide +kernel
theorem dX5_init_51 : decode cX5_init 51 = .ok (.iconst 0, 1) := by decide +kernel
theorem dX5_init_52 : decode cX5_init 52 = .ok (.ldc 27, 2) := by decide +kernel
theorem dX5_init_54 : decode cX5_init 54 = .ok (.aastore, 1) := by decide +kernel
theorem dX5_init_55 : decode cX5_init 55 = .ok (.dup, 1) := by decide +kernel
theorem dX5_init_56 : decode cX5_init 56 = .ok (.iconst 1, 1) := by decide +kernel
theorem dX5_init_57 : decode cX5_init 57 = .ok (.ldc 29, 2) := by decide +kernel
theorem dX5_init_59 : decode cX5_init 59 = .ok (.aastore, 1) := by decide +kernel
theorem dX5_init_60 : decode cX5_init 60 = .ok (.dup, 1) := by decide +kernel
theorem dX5_init_61 : decode cX5_init 61 = .ok (.iconst 2, 1) := by decide +kernel
theorem dX5_init_62 : decode cX5_init 62 = .ok (.ldc 31, 2) := by decide +kernel
theorem dX5_init_64 : decode cX5_init 64 = .ok (.aastore, 1) := by decide +kernel
theorem dX5_init_65 : decode cX5_init 65 = .ok (.dup, 1) := by decide +kernel
theorem dX5_init_66 : decode cX5_init 66 = .ok (.iconst 3, 1) := by decide +kernel
theorem dX5_init_67 : decode cX5_init 67 = .ok (.ldc 33, 2) := by decide +kernel
theorem dX5_init_69 : decode cX5_init 69 = .ok (.aastore, 1) := by decide +kernel
theorem dX5_init_70 : decode cX5_init 70 = .ok (.dup, 1) := by decide +kernel
theorem dX5_init_71 : decode cX5_init 71 = .ok (.iconst 4, 1) := by decide +kernel
theorem dX5_init_72 : decode cX5_init 72 = .ok (.ldc 35, 2) := by decide +kernel
theorem dX5_init_74 : decode cX5_init 74 = .ok (.aastore, 1) := by decide +kernel
theorem dX5_init_75 : decode cX5_init 75 = .ok (.dup, 1) := by decide +kernel
theorem dX5_init_76 : decode cX5_init 76 = .ok (.iconst 5, 1) := by decide +kernel
theorem dX5_init_77 : decode cX5_init 77 = .ok (.ldc 37, 2) := by decide +kernel
theorem dX5_init_79 : decode cX5_init 79 = .ok (.aastore, 1) := by decide +kernel
theorem dX5_init_80 : decode cX5_init 80 = .ok (.dup, 1) := by decide +kernel
theorem dX5_init_81 : decode cX5_init 81 = .ok (.bipush 6, 2) := by decide +kernel
theorem dX5_init_83 : decode cX5_init 83 = .ok (.ldc 39, 2) := by decide +kernel
theorem dX5_init_85 : decode cX5_init 85 = .ok (.aastore, 1) := by decide +kernel
theorem dX5_init_86 : decode cX5_init 86 = .ok (.putfield 41, 3) := by decide +kernel
theorem dX5_init_89 : decode cX5_init 89 = .ok (.aload_n 0, 1) := by decide +kernel
theorem dX5_init_90 : decode cX5_init 90 = .ok (.sipush 480, 3) := by decide +kernel
theorem dX5_init_93 : decode cX5_init 93 = .ok (.newarray .int, 2) := by decide +kernel
theorem dX5_init_95 : decode cX5_init 95 = .ok (.putfield 45, 3) := by decide +kernel
theorem dX5_init_98 : decode cX5_init 98 = .ok (.aload_n 0, 1) := by decide +kernel
theorem dX5_init_99 : decode cX5_init 99 = .ok (.iconst 4, 1) := by decide +kernel
theorem dX5_init_100 : decode cX5_init 100 = .ok (.newarray .int, 2) := by decide +kernel
theorem dX5_init_102 : decode cX5_init 102 = .ok (.putfield 48, 3) := by decide +kernel
theorem dX5_init_105 : decode cX5_init 105 = .ok (.aload_n 0, 1) := by decide +kernel
theorem dX5_init_106 : decode cX5_init 106 = .ok (.iconst 4, 1) := by decide +kernel
theorem dX5_init_107 : decode cX5_init 107 = .ok (.newarray .int, 2) := by decide +kernel
theorem dX5_init_109 : decode cX5_init 109 = .ok (.putfield 51, 3) := by decide +kernel
theorem dX5_init_112 : decode cX5_init 112 = .ok (.aload_n 0, 1) := by decide +kernel
theorem dX5_init_113 : decode cX5_init 113 = .ok (.sipush 160, 3) := by decide +kernel
theorem dX5_init_116 : decode cX5_init 116 = .ok (.newarray .int, 2) := by decide +kernel
theorem dX5_init_118 : decode cX5_init 118 = .ok (.putfield 54, 3) := by decide +kernel
theorem dX5_init_121 : decode cX5_init 121 = .ok (.aload_n 0, 1) := by decide +kernel
theorem dX5_init_122 : decode cX5_init 122 = .ok (.bipush 40, 2) := by decide +kernel
theorem dX5_init_124 : decode cX5_init 124 = .ok (.newarray .int, 2) := by decide +kernel
theorem dX5_init_126 : decode cX5_init 126 = .ok (.putfield 57, 3) := by decide +kernel
theorem dX5_init_129 : decode cX5_init 129 = .ok (.aload_n 0, 1) := by decide +kernel
theorem dX5_init_130 : decode cX5_init 130 = .ok (.getfield 9, 3) := by decide +kernel
theorem dX5_init_133 : decode cX5_init 133 = .ok (.iconst 2, 1) := by decide +kernel
theorem dX5_init_134 : decode cX5_init 134 = .ok (.iconst 1, 1) := by decide +kernel
theorem dX5_init_135 : decode cX5_init 135 = .ok (.iastore, 1) := by decide +kernel
theorem dX5_init_136 : decode cX5_init 136 = .ok (.aload_n 0, 1) := by decide +kernel
theorem dX5_init_137 : decode cX5_init 137 = .ok (.getfield 9, 3) := by decide +kernel
theorem dX5_init_140 : decode cX5_init 140 = .ok (.iconst 3, 1) := by decide +kernel
theorem dX5_init_141 : decode cX5_init 141 = .ok (.sipush 200, 3) := by decide +kernel
theorem dX5_init_144 : decode cX5_init 144 = .ok (.iastore, 1) := by decide +kernel
theorem dX5_init_145 : decode cX5_init 145 = .ok (.iconst 0, 1) := by decide +kernel
theorem dX5_init_146 : decode cX5_init 146 = .ok (.istore_n 1, 1) := by decide +kernel
theorem dX5_init_147 : decode cX5_init 147 = .ok (.iload_n 1, 1) := by decide +kernel
theorem dX5_init_148 : decode cX5_init 148 = .ok (.bipush 6, 2) := by decide +kernel
theorem dX5_init_150 : decode cX5_init 150 = .ok (.if_icmp .ge 20, 3) := by decide +kernel
theorem dX5_init_153 : decode cX5_init 153 = .ok (.aload_n 0, 1) := by decide +kernel
theorem dX5_init_154 : decode cX5_init 154 = .ok (.getfield 9, 3) := by decide +kernel
theorem dX5_init_157 : decode cX5_init 157 = .ok (.bipush 6, 2) := by decide +kernel
theorem dX5_init_159 : decode cX5_init 159 = .ok (.iload_n 1, 1) := by decide +kernel
theorem dX5_init_160 : decode cX5_init 160 = .ok (.iadd, 1) := by decide +kernel
theorem dX5_init_161 : decode cX5_init 161 = .ok (.bipush 26, 2) := by decide +kernel
theorem dX5_init_163 : decode cX5_init 163 = .ok (.iastore, 1) := by decide +kernel
theorem dX5_init_164 : decode cX5_init 164 = .ok (.iinc 1 1, 3) := by decide +kernel
theorem dX5_init_167 : decode cX5_init 167 = .ok (.goto (-20), 3) := by decide +kernel
theorem dX5_init_170 : decode cX5_init 170 = .ok (.iconst 0, 1) := by decide +kernel
theorem dX5_init_171 : decode cX5_init 171 = .ok (.istore_n 1, 1) := by decide +kernel
theorem dX5_init_172 : decode cX5_init 172 = .ok (.iload_n 1, 1) := by decide +kernel
theorem dX5_init_173 : decode cX5_init 173 = .ok (.bipush 16, 2) := by decide +kernel
theorem dX5_init_175 : decode cX5_init 175 = .ok (.if_icmp .ge 20, 3) := by decide +kernel
theorem dX5_init_178 : decode cX5_init 178 = .ok (.aload_n 0, 1) := by decide +kernel
theorem dX5_init_179 : decode cX5_init 179 = .ok (.getfield 9, 3) := by decide +kernel
theorem dX5_init_182 : decode cX5_init 182 = .ok (.bipush 12, 2) := by decide +kernel
theorem dX5_init_184 : decode cX5_init 184 = .ok (.iload_n 1, 1) := by decide +kernel
theorem dX5_init_185 : decode cX5_init 185 = .ok (.iadd, 1) := by decide +kernel
theorem dX5_init_186 : decode cX5_init 186 = .ok (.bipush 20, 2) := by decide +kernel
theorem dX5_init_188 : decode cX5_init 188 = .ok (.iastore, 1) := by decide +kernel
theorem dX5_init_189 : decode cX5_init 189 = .ok (.iinc 1 1, 3) := by decide +kernel
theorem dX5_init_192 : decode cX5_init 192 = .ok (.goto (-20), 3) := by decide +kernel
theorem dX5_init_195 : decode cX5_init 195 = .ok (.iconst 0, 1) := by decide +kernel
theorem dX5_init_196 : decode cX5_init 196 = .ok (.istore_n 1, 1) := by decide +kernel
theorem dX5_init_197 : decode cX5_init 197 = .ok (.iload_n 1, 1) := by decide +kernel
theorem dX5_init_198 : decode cX5_init 198 = .ok (.bipush 10, 2) := by decide +kernel
theorem dX5_init_200 : decode cX5_init 200 = .ok (.if_icmp .ge 19, 3) := by decide +kernel
theorem dX5_init_203 : decode cX5_init 203 = .ok (.aload_n 0, 1) := by decide +kernel
theorem dX5_init_204 : decode cX5_init 204 = .ok (.getfield 9, 3) := by decide +kernel
theorem dX5_init_207 : decode cX5_init 207 = .ok (.bipush 28, 2) := by decide +kernel
theorem dX5_init_209 : decode cX5_init 209 = .ok (.iload_n 1, 1) := by decide +kernel
theorem dX5_init_210 : decode cX5_init 210 = .ok (.iadd, 1) := by decide +kernel
theorem dX5_init_211 : decode cX5_init 211 = .ok (.iconst (-1), 1) := by decide +kernel
theorem dX5_init_212 : decode cX5_init 212 = .ok (.iastore, 1) := by decide +kernel
theorem dX5_init_213 : decode cX5_init 213 = .ok (.iinc 1 1, 3) := by decide +kernel
theorem dX5_init_216 : decode cX5_init 216 = .ok (.goto (-19), 3) := by decide +kernel
theorem dX5_init_219 : decode cX5_init 219 = .ok (.return_, 1) := by decide +kernel
theorem dX5_finding_0 : decode cX5_finding 0 = .ok (.aload_n 0, 1) := by decide +kernel
theorem dX5_finding_1 : decode cX5_finding 1 = .ok (.getfield 19, 3) := by decide +kernel
theorem dX5_finding_4 : decode cX5_finding 4 = .ok (.ldc 60, 2) := by decide +kernel
theorem dX5_finding_6 : decode cX5_finding 6 = .ok (.iload_n 1, 1) := by decide +kernel
theorem dX5_finding_7 : decode cX5_finding 7 = .ok (.isub, 1) := by decide +kernel
theorem dX5_finding_8 : decode cX5_finding 8 = .ok (.iconst 1, 1) := by decide +kernel
theorem dX5_finding_9 : decode cX5_finding 9 = .ok (.iadd, 1) := by decide +kernel
theorem dX5_finding_10 : decode cX5_finding 10 = .ok (.dup2, 1) := by decide +kernel
theorem dX5_finding_11 : decode cX5_finding 11 = .ok (.iaload, 1) := by decide +kernel
theorem dX5_finding_12 : decode cX5_finding 12 = .ok (.iconst 1, 1) := by decide +kernel
theorem dX5_finding_13 : decode cX5_finding 13 = .ok (.iadd, 1) := by decide +kernel
theorem dX5_finding_14 : decode cX5_finding 14 = .ok (.iastore, 1) := by decide +kernel
theorem dX5_finding_15 : decode cX5_finding 15 = .ok (.aload_n 0, 1) := by decide +kernel
theorem dX5_finding_16 : decode cX5_finding 16 = .ok (.getfield 19, 3) := by decide +kernel
theorem dX5_finding_19 : decode cX5_finding 19 = .ok (.iconst 0, 1) := by decide +kernel
theorem dX5_finding_20 : decode cX5_finding 20 = .ok (.dup2, 1) := by decide +kernel
theorem dX5_finding_21 : decode cX5_finding 21 = .ok (.iaload, 1) := by decide +kernel
theorem dX5_finding_22 : decode cX5_finding 22 = .ok (.iconst 1, 1) := by decide +kernel
theorem dX5_finding_23 : decode cX5_finding 23 = .ok (.iadd, 1) := by decide +kernel
theorem dX5_finding_24 : decode cX5_finding 24 = .ok (.iastore, 1) := by decide +kernel
theorem dX5_finding_25 : decode cX5_finding 25 = .ok (.iload_n 1, 1) := by decide +kernel
theorem dX5_finding_26 : decode cX5_finding 26 = .ok (.ireturn, 1) := by decide +kernel
theorem dX5_within_0 : decode cX5_within 0 = .ok (.iload_n 0, 1) := by decide +kernel
theorem dX5_within_1 : decode cX5_within 1 = .ok (.iload_n 1, 1) := by decide +kernel
theorem dX5_within_2 : decode cX5_within 2 = .ok (.if_icmp .lt 12, 3) := by decide +kernel
theorem dX5_within_5 : decode cX5_within 5 = .ok (.iload_n 0, 1) := by decide +kernel
theorem dX5_within_6 : decode cX5_within 6 = .ok (.iload_n 2, 1) := by decide +kernel
theorem dX5_within_7 : decode cX5_within 7 = .ok (.if_icmp .gt 7, 3) := by decide +kernel
theorem dX5_within_10 : decode cX5_within 10 = .ok (.iconst 1, 1) := by decide +kernel
theorem dX5_within_11 : decode cX5_within 11 = .ok (.goto 4, 3) := by decide +kernel
theorem dX5_within_14 : decode cX5_within 14 = .ok (.iconst 0, 1) := by decide +kernel
theorem dX5_within_15 : decode cX5_within 15 = .ok (.ireturn, 1) := by decide +kernel
theorem dX5_become_0 : decode cX5_become 0 = .ok (.aload_n 0, 1) := by decide +kernel
theorem dX5_become_1 : decode cX5_become 1 = .ok (.getfield 9, 3) := by decide +kernel
theorem dX5_become_4 : decode cX5_become 4 = .ok (.iload_n 1, 1) := by decide +kernel
theorem dX5_become_5 : decode cX5_become 5 = .ok (.iaload, 1) := by decide +kernel
theorem dX5_become_6 : decode cX5_become 6 = .ok (.istore_n 3, 1) := by decide +kernel
theorem dX5_become_7 : decode cX5_become 7 = .ok (.aload_n 0, 1) := by decide +kernel
theorem dX5_become_8 : decode cX5_become 8 = .ok (.getfield 9, 3) := by decide +kernel
theorem dX5_become_11 : decode cX5_become 11 = .ok (.iload_n 1, 1) := by decide +kernel
theorem dX5_become_12 : decode cX5_become 12 = .ok (.iload_n 2, 1) := by decide +kernel
theorem dX5_become_13 : decode cX5_become 13 = .ok (.iastore, 1) := by decide +kernel
theorem dX5_become_14 : decode cX5_become 14 = .ok (.iload_n 3, 1) := by decide +kernel
theorem dX5_become_15 : decode cX5_become 15 = .ok (.ireturn, 1) := by decide +kernel
theorem dX5_copyRow_0 : decode cX5_copyRow 0 = .ok (.iconst 0, 1) := by decide +kernel
theorem dX5_copyRow_1 : decode cX5_copyRow 1 = .ok (.istore_n 2, 1) := by decide +kernel
theorem dX5_copyRow_2 : decode cX5_copyRow 2 = .ok (.iload_n 2, 1) := by decide +kernel
theorem dX5_copyRow_3 : decode cX5_copyRow 3 = .ok (.bipush 86, 2) := by decide +kernel
theorem dX5_copyRow_5 : decode cX5_copyRow 5 = .ok (.if_icmp .ge 15, 3) := by decide +kernel
theorem dX5_copyRow_8 : decode cX5_copyRow 8 = .ok (.aload_n 1, 1) := by decide +kernel
theorem dX5_copyRow_9 : decode cX5_copyRow 9 = .ok (.iload_n 2, 1) := by decide +kernel
theorem dX5_copyRow_10 : decode cX5_copyRow 10 = .ok (.aload_n 0, 1) := by decide +kernel
theorem dX5_copyRow_11 : decode cX5_copyRow 11 = .ok (.iload_n 2, 1) := by decide +kernel
theorem dX5_copyRow_12 : decode cX5_copyRow 12 = .ok (.iaload, 1) := by decide +kernel
theorem dX5_copyRow_13 : decode cX5_copyRow 13 = .ok (.iastore, 1) := by decide +kernel
theorem dX5_copyRow_14 : decode cX5_copyRow 14 = .ok (.iinc 2 1, 3) := by decide +kernel
theorem dX5_copyRow_17 : decode cX5_copyRow 17 = .ok (.goto (-15), 3) := by decide +kernel
theorem dX5_copyRow_20 : decode cX5_copyRow 20 = .ok (.return_, 1) := by decide +kernel
theorem dX5_putBack_0 : decode cX5_putBack 0 = .ok (.aload_n 0, 1) := by decide +kernel
theorem dX5_putBack_1 : decode cX5_putBack 1 = .ok (.getfield 16, 3) := by decide +kernel
theorem dX5_putBack_4 : decode cX5_putBack 4 = .ok (.aload_n 0, 1) := by decide +kernel
theorem dX5_putBack_5 : decode cX5_putBack 5 = .ok (.getfield 9, 3) := by decide +kernel
theorem dX5_putBack_8 : decode cX5_putBack 8 = .ok (.invokestatic 61, 3) := by decide +kernel
theorem dX5_putBack_11 : decode cX5_putBack 11 = .ok (.iload_n 1, 1) := by decide +kernel
theorem dX5_putBack_12 : decode cX5_putBack 12 = .ok (.ireturn, 1) := by decide +kernel
theorem dX5_orNone_0 : decode cX5_orNone 0 = .ok (.iload_n 1, 1) := by decide +kernel
theorem dX5_orNone_1 : decode cX5_orNone 1 = .ok (.ifCond .ge 12, 3) := by decide +kernel
theorem dX5_orNone_4 : decode cX5_orNone 4 = .ok (.aload_n 0, 1) := by decide +kernel
theorem dX5_orNone_5 : decode cX5_orNone 5 = .ok (.ldc 65, 2) := by decide +kernel
theorem dX5_orNone_7 : decode cX5_orNone 7 = .ok (.invokevirtual 66, 3) := by decide +kernel
theorem dX5_orNone_10 : decode cX5_orNone 10 = .ok (.goto 4, 3) := by decide +kernel
theorem dX5_orNone_13 : decode cX5_orNone 13 = .ok (.iload_n 1, 1) := by decide +kernel
theorem dX5_orNone_14 : decode cX5_orNone 14 = .ok (.ireturn, 1) := by decide +kernel
theorem dX5_bits_0 : decode cX5_bits 0 = .ok (.iconst 0, 1) := by decide +kernel
theorem dX5_bits_1 : decode cX5_bits 1 = .ok (.istore_n 1, 1) := by decide +kernel
theorem dX5_bits_2 : decode cX5_bits 2 = .ok (.iload_n 0, 1) := by decide +kernel
theorem dX5_bits_3 : decode cX5_bits 3 = .ok (.istore_n 2, 1) := by decide +kernel
theorem dX5_bits_4 : decode cX5_bits 4 = .ok (.iload_n 2, 1) := by decide +kernel
theorem dX5_bits_5 : decode cX5_bits 5 = .ok (.ifCond .eq 15, 3) := by decide +kernel
theorem dX5_bits_8 : decode cX5_bits 8 = .ok (.iinc 1 1, 3) := by decide +kernel
theorem dX5_bits_11 : decode cX5_bits 11 = .ok (.iload_n 2, 1) := by decide +kernel
theorem dX5_bits_12 : decode cX5_bits 12 = .ok (.iload_n 2, 1) := by decide +kernel
theorem dX5_bits_13 : decode cX5_bits 13 = .ok (.iconst 1, 1) := by decide +kernel
theorem dX5_bits_14 : decode cX5_bits 14 = .ok (.isub, 1) := by decide +kernel
theorem dX5_bits_15 : decode cX5_bits 15 = .ok (.iand, 1) := by decide +kernel
theorem dX5_bits_16 : decode cX5_bits 16 = .ok (.istore_n 2, 1) := by decide +kernel
theorem dX5_bits_17 : decode cX5_bits 17 = .ok (.goto (-13), 3) := by decide +kernel
theorem dX5_bits_20 : decode cX5_bits 20 = .ok (.iload_n 1, 1) := by decide +kernel
theorem dX5_bits_21 : decode cX5_bits 21 = .ok (.ireturn, 1) := by decide +kernel
theorem dX5_isCell_0 : decode cX5_isCell 0 = .ok (.iload_n 0, 1) := by decide +kernel
theorem dX5_isCell_1 : decode cX5_isCell 1 = .ok (.iconst 0, 1) := by decide +kernel
theorem dX5_isCell_2 : decode cX5_isCell 2 = .ok (.bipush 15, 2) := by decide +kernel
theorem dX5_isCell_4 : decode cX5_isCell 4 = .ok (.invokestatic 70, 3) := by decide +kernel
theorem dX5_isCell_7 : decode cX5_isCell 7 = .ok (.ireturn, 1) := by decide +kernel
theorem dX5_isMeasure_0 : decode cX5_isMeasure 0 = .ok (.iload_n 0, 1) := by decide +kernel
theorem dX5_isMeasure_1 : decode cX5_isMeasure 1 = .ok (.bipush 16, 2) := by decide +kernel
theorem dX5_isMeasure_3 : decode cX5_isMeasure 3 = .ok (.bipush 36, 2) := by decide +kernel
theorem dX5_isMeasure_5 : decode cX5_isMeasure 5 = .ok (.invokestatic 70, 3) := by decide +kernel
theorem dX5_isMeasure_8 : decode cX5_isMeasure 8 = .ok (.ireturn, 1) := by decide +kernel
theorem dX5_isOften_0 : decode cX5_isOften 0 = .ok (.iload_n 0, 1) := by decide +kernel
theorem dX5_isOften_1 : decode cX5_isOften 1 = .ok (.iconst 0, 1) := by decide +kernel
theorem dX5_isOften_2 : decode cX5_isOften 2 = .ok (.sipush 9999, 3) := by decide +kernel
theorem dX5_isOften_5 : decode cX5_isOften 5 = .ok (.invokestatic 70, 3) := by decide +kernel
theorem dX5_isOften_8 : decode cX5_isOften 8 = .ok (.ireturn, 1) := by decide +kernel
theorem dX5_isBase_0 : decode cX5_isBase 0 = .ok (.iload_n 0, 1) := by decide +kernel
theorem dX5_isBase_1 : decode cX5_isBase 1 = .ok (.iconst 0, 1) := by decide +kernel
theorem dX5_isBase_2 : decode cX5_isBase 2 = .ok (.bipush 40, 2) := by decide +kernel
theorem dX5_isBase_4 : decode cX5_isBase 4 = .ok (.invokestatic 70, 3) := by decide +kernel
theorem dX5_isBase_7 : decode cX5_isBase 7 = .ok (.ireturn, 1) := by decide +kernel
theorem dX5_set_0 : decode cX5_set 0 = .ok (.iload_n 1, 1) := by decide +kernel
theorem dX5_set_1 : decode cX5_set 1 = .ok (.ifCond .ne 14, 3) := by decide +kernel
theorem dX5_set_4 : decode cX5_set 4 = .ok (.iload_n 2, 1) := by decide +kernel
theorem dX5_set_5 : decode cX5_set 5 = .ok (.iconst 0, 1) := by decide +kernel
theorem dX5_set_6 : decode cX5_set 6 = .ok (.sipush 999, 3) := by decide +kernel
theorem dX5_set_9 : decode cX5_set 9 = .ok (.invokestatic 70, 3) := by decide +kernel
theorem dX5_set_12 : decode cX5_set 12 = .ok (.goto 34, 3) := by decide +kernel
theorem dX5_set_15 : decode cX5_set 15 = .ok (.iload_n 1, 1) := by decide +kernel
theorem dX5_set_16 : decode cX5_set 16 = .ok (.iconst 1, 1) := by decide +kernel
theorem dX5_set_17 : decode cX5_set 17 = .ok (.if_icmp .ne 10, 3) := by decide +kernel
theorem dX5_set_20 : decode cX5_set 20 = .ok (.iload_n 2, 1) := by decide +kernel
theorem dX5_set_21 : decode cX5_set 21 = .ok (.invokestatic 74, 3) := by decide +kernel
theorem dX5_set_24 : decode cX5_set 24 = .ok (.goto 22, 3) := by decide +kernel
theorem dX5_set_27 : decode cX5_set 27 = .ok (.iload_n 1, 1) := by decide +kernel
theorem dX5_set_28 : decode cX5_set 28 = .ok (.iconst 2, 1) := by decide +kernel
theorem dX5_set_29 : decode cX5_set 29 = .ok (.if_icmp .ne 16, 3) := by decide +kernel
theorem dX5_set_32 : decode cX5_set 32 = .ok (.iload_n 2, 1) := by decide +kernel
theorem dX5_set_33 : decode cX5_set 33 = .ok (.iconst 0, 1) := by decide +kernel
theorem dX5_set_34 : decode cX5_set 34 = .ok (.iconst 1, 1) := by decide +kernel
theorem dX5_set_35 : decode cX5_set 35 = .ok (.invokestatic 70, 3) := by decide +kernel
theorem dX5_set_38 : decode cX5_set 38 = .ok (.ifCond .eq 7, 3) := by decide +kernel
theorem dX5_set_41 : decode cX5_set 41 = .ok (.iconst 1, 1) := by decide +kernel
theorem dX5_set_42 : decode cX5_set 42 = .ok (.goto 4, 3) := by decide +kernel
theorem dX5_set_45 : decode cX5_set 45 = .ok (.iconst 0, 1) := by decide +kernel
theorem dX5_set_46 : decode cX5_set 46 = .ok (.istore_n 3, 1) := by decide +kernel
theorem dX5_set_47 : decode cX5_set 47 = .ok (.iload_n 3, 1) := by decide +kernel
theorem dX5_set_48 : decode cX5_set 48 = .ok (.ifCond .eq 14, 3) := by decide +kernel
theorem dX5_set_51 : decode cX5_set 51 = .ok (.aload_n 0, 1) := by decide +kernel
theorem dX5_set_52 : decode cX5_set 52 = .ok (.iconst 3, 1) := by decide +kernel
theorem dX5_set_53 : decode cX5_set 53 = .ok (.iload_n 1, 1) := by decide +kernel
theorem dX5_set_54 : decode cX5_set 54 = .ok (.iadd, 1) := by decide +kernel
theorem dX5_set_55 : decode cX5_set 55 = .ok (.iload_n 2, 1) := by decide +kernel
theorem dX5_set_56 : decode cX5_set 56 = .ok (.invokevirtual 78, 3) := by decide +kernel
theorem dX5_set_59 : decode cX5_set 59 = .ok (.goto 9, 3) := by decide +kernel
theorem dX5_set_62 : decode cX5_set 62 = .ok (.aload_n 0, 1) := by decide +kernel
theorem dX5_set_63 : decode cX5_set 63 = .ok (.ldc 60, 2) := by decide +kernel
theorem dX5_set_65 : decode cX5_set 65 = .ok (.invokevirtual 66, 3) := by decide +kernel
theorem dX5_set_68 : decode cX5_set 68 = .ok (.ireturn, 1) := by decide +kernel
theorem dX5_cell_0 : decode cX5_cell 0 = .ok (.iload_n 1, 1) := by decide +kernel
theorem dX5_cell_1 : decode cX5_cell 1 = .ok (.invokestatic 82, 3) := by decide +kernel
theorem dX5_cell_4 : decode cX5_cell 4 = .ok (.ifCond .eq 22, 3) := by decide +kernel
theorem dX5_cell_7 : decode cX5_cell 7 = .ok (.iload_n 2, 1) := by decide +kernel
theorem dX5_cell_8 : decode cX5_cell 8 = .ok (.invokestatic 85, 3) := by decide +kernel
theorem dX5_cell_11 : decode cX5_cell 11 = .ok (.ifCond .eq 15, 3) := by decide +kernel
theorem dX5_cell_14 : decode cX5_cell 14 = .ok (.aload_n 0, 1) := by decide +kernel
theorem dX5_cell_15 : decode cX5_cell 15 = .ok (.bipush 12, 2) := by decide +kernel
theorem dX5_cell_17 : decode cX5_cell 17 = .ok (.iload_n 1, 1) := by decide +kernel
theorem dX5_cell_18 : decode cX5_cell 18 = .ok (.iadd, 1) := by decide +kernel
theorem dX5_cell_19 : decode cX5_cell 19 = .ok (.iload_n 2, 1) := by decide +kernel
theorem dX5_cell_20 : decode cX5_cell 20 = .ok (.invokevirtual 78, 3) := by decide +kernel
theorem dX5_cell_23 : decode cX5_cell 23 = .ok (.goto 9, 3) := by decide +kernel
theorem dX5_cell_26 : decode cX5_cell 26 = .ok (.aload_n 0, 1) := by decide +kernel
theorem dX5_cell_27 : decode cX5_cell 27 = .ok (.ldc 60, 2) := by decide +kernel
theorem dX5_cell_29 : decode cX5_cell 29 = .ok (.invokevirtual 66, 3) := by decide +kernel
theorem dX5_cell_32 : decode cX5_cell 32 = .ok (.ireturn, 1) := by decide +kernel
theorem dX5_isPlace_0 : decode cX5_isPlace 0 = .ok (.iload_n 0, 1) := by decide +kernel
theorem dX5_isPlace_1 : decode cX5_isPlace 1 = .ok (.iconst 0, 1) := by decide +kernel
theorem dX5_isPlace_2 : decode cX5_isPlace 2 = .ok (.iconst 5, 1) := by decide +kernel
theorem dX5_isPlace_3 : decode cX5_isPlace 3 = .ok (.invokestatic 70, 3) := by decide +kernel
theorem dX5_isPlace_6 : decode cX5_isPlace 6 = .ok (.ireturn, 1) := by decide +kernel
theorem dX5_measure_0 : decode cX5_measure 0 = .ok (.iload_n 1, 1) := by decide +kernel
theorem dX5_measure_1 : decode cX5_measure 1 = .ok (.invokestatic 88, 3) := by decide +kernel
theorem dX5_measure_4 : decode cX5_measure 4 = .ok (.ifCond .eq 22, 3) := by decide +kernel
theorem dX5_measure_7 : decode cX5_measure 7 = .ok (.iload_n 2, 1) := by decide +kernel
theorem dX5_measure_8 : decode cX5_measure 8 = .ok (.invokestatic 91, 3) := by decide +kernel
theorem dX5_measure_11 : decode cX5_measure 11 = .ok (.ifCond .eq 15, 3) := by decide +kernel
theorem dX5_measure_14 : decode cX5_measure 14 = .ok (.aload_n 0, 1) := by decide +kernel
theorem dX5_measure_15 : decode cX5_measure 15 = .ok (.bipush 6, 2) := by decide +kernel
theorem dX5_measure_17 : decode cX5_measure 17 = .ok (.iload_n 1, 1) := by decide +kernel
theorem dX5_measure_18 : decode cX5_measure 18 = .ok (.iadd, 1) := by decide +kernel
theorem dX5_measure_19 : decode cX5_measure 19 = .ok (.iload_n 2, 1) := by decide +kernel
theorem dX5_measure_20 : decode cX5_measure 20 = .ok (.invokevirtual 78, 3) := by decide +kernel
theorem dX5_measure_23 : decode cX5_measure 23 = .ok (.goto 9, 3) := by decide +kernel
theorem dX5_measure_26 : decode cX5_measure 26 = .ok (.aload_n 0, 1) := by decide +kernel
theorem dX5_measure_27 : decode cX5_measure 27 = .ok (.ldc 60, 2) := by decide +kernel
theorem dX5_measure_29 : decode cX5_measure 29 = .ok (.invokevirtual 66, 3) := by decide +kernel
theorem dX5_measure_32 : decode cX5_measure 32 = .ok (.ireturn, 1) := by decide +kernel
theorem dX5_listed_0 : decode cX5_listed 0 = .ok (.iload_n 1, 1) := by decide +kernel
theorem dX5_listed_1 : decode cX5_listed 1 = .ok (.invokestatic 88, 3) := by decide +kernel
theorem dX5_listed_4 : decode cX5_listed 4 = .ok (.ifCond .eq 15, 3) := by decide +kernel
theorem dX5_listed_7 : decode cX5_listed 7 = .ok (.aload_n 0, 1) := by decide +kernel
theorem dX5_listed_8 : decode cX5_listed 8 = .ok (.getfield 9, 3) := by decide +kernel
theorem dX5_listed_11 : decode cX5_listed 11 = .ok (.bipush 6, 2) := by decide +kernel
theorem dX5_listed_13 : decode cX5_listed 13 = .ok (.iload_n 1, 1) := by decide +kernel
theorem dX5_listed_14 : decode cX5_listed 14 = .ok (.iadd, 1) := by decide +kernel
theorem dX5_listed_15 : decode cX5_listed 15 = .ok (.iaload, 1) := by decide +kernel
theorem dX5_listed_16 : decode cX5_listed 16 = .ok (.goto 9, 3) := by decide +kernel
theorem dX5_listed_19 : decode cX5_listed 19 = .ok (.aload_n 0, 1) := by decide +kernel
theorem dX5_listed_20 : decode cX5_listed 20 = .ok (.ldc 60, 2) := by decide +kernel
theorem dX5_listed_22 : decode cX5_listed 22 = .ok (.invokevirtual 66, 3) := by decide +kernel
theorem dX5_listed_25 : decode cX5_listed 25 = .ok (.ireturn, 1) := by decide +kernel
theorem dX5_placeNow_0 : decode cX5_placeNow 0 = .ok (.bipush 6, 2) := by decide +kernel
theorem dX5_placeNow_2 : decode cX5_placeNow 2 = .ok (.aload_n 0, 1) := by decide +kernel
theorem dX5_placeNow_3 : decode cX5_placeNow 3 = .ok (.getfield 9, 3) := by decide +kernel
theorem dX5_placeNow_6 : decode cX5_placeNow 6 = .ok (.iconst 0, 1) := by decide +kernel
theorem dX5_placeNow_7 : decode cX5_placeNow 7 = .ok (.iaload, 1) := by decide +kernel
theorem dX5_placeNow_8 : decode cX5_placeNow 8 = .ok (.bipush 6, 2) := by decide +kernel
theorem dX5_placeNow_10 : decode cX5_placeNow 10 = .ok (.irem, 1) := by decide +kernel
theorem dX5_placeNow_11 : decode cX5_placeNow 11 = .ok (.iadd, 1) := by decide +kernel
theorem dX5_placeNow_12 : decode cX5_placeNow 12 = .ok (.ireturn, 1) := by decide +kernel
theorem dX5_measureNow_0 : decode cX5_measureNow 0 = .ok (.aload_n 0, 1) := by decide +kernel
theorem dX5_measureNow_1 : decode cX5_measureNow 1 = .ok (.getfield 9, 3) := by decide +kernel
theorem dX5_measureNow_4 : decode cX5_measureNow 4 = .ok (.iconst 5, 1) := by decide +kernel
theorem dX5_measureNow_5 : decode cX5_measureNow 5 = .ok (.iaload, 1) := by decide +kernel
theorem dX5_measureNow_6 : decode cX5_measureNow 6 = .ok (.iconst 1, 1) := by decide +kernel
theorem dX5_measureNow_7 : decode cX5_measureNow 7 = .ok (.if_icmp .ne 8, 3) := by decide +kernel
theorem dX5_measureNow_10 : decode cX5_measureNow 10 = .ok (.bipush 36, 2) := by decide +kernel
theorem dX5_measureNow_12 : decode cX5_measureNow 12 = .ok (.goto 12, 3) := by decide +kernel
theorem dX5_measureNow_15 : decode cX5_measureNow 15 = .ok (.aload_n 0, 1) := by decide +kernel
theorem dX5_measureNow_16 : decode cX5_measureNow 16 = .ok (.getfield 9, 3) := by decide +kernel
theorem dX5_measureNow_19 : decode cX5_measureNow 19 = .ok (.aload_n 0, 1) := by decide +kernel
theorem dX5_measureNow_20 : decode cX5_measureNow 20 = .ok (.invokevirtual 94, 3) := by decide +kernel
theorem dX5_measureNow_23 : decode cX5_measureNow 23 = .ok (.iaload, 1) := by decide +kernel
theorem dX5_measureNow_24 : decode cX5_measureNow 24 = .ok (.ireturn, 1) := by decide +kernel
theorem dX5_wideAt_0 : decode cX5_wideAt 0 = .ok (.iconst 0, 1) := by decide +kernel
theorem dX5_wideAt_1 : decode cX5_wideAt 1 = .ok (.aload_n 0, 1) := by decide +kernel
theorem dX5_wideAt_2 : decode cX5_wideAt 2 = .ok (.getfield 9, 3) := by decide +kernel
theorem dX5_wideAt_5 : decode cX5_wideAt 5 = .ok (.bipush 12, 2) := by decide +kernel
theorem dX5_wideAt_7 : decode cX5_wideAt 7 = .ok (.iload_n 1, 1) := by decide +kernel
theorem dX5_wideAt_8 : decode cX5_wideAt 8 = .ok (.iadd, 1) := by decide +kernel
theorem dX5_wideAt_9 : decode cX5_wideAt 9 = .ok (.iaload, 1) := by decide +kernel
theorem dX5_wideAt_10 : decode cX5_wideAt 10 = .ok (.iload_n 2, 1) := by decide +kernel
theorem dX5_wideAt_11 : decode cX5_wideAt 11 = .ok (.iadd, 1) := by decide +kernel
theorem dX5_wideAt_12 : decode cX5_wideAt 12 = .ok (.bipush 26, 2) := by decide +kernel
theorem dX5_wideAt_14 : decode cX5_wideAt 14 = .ok (.isub, 1) := by decide +kernel
theorem dX5_wideAt_15 : decode cX5_wideAt 15 = .ok (.invokestatic 98, 3) := by decide +kernel
theorem dX5_wideAt_18 : decode cX5_wideAt 18 = .ok (.ireturn, 1) := by decide +kernel
theorem dX5_wide_0 : decode cX5_wide 0 = .ok (.iload_n 1, 1) := by decide +kernel
theorem dX5_wide_1 : decode cX5_wide 1 = .ok (.invokestatic 82, 3) := by decide +kernel
theorem dX5_wide_4 : decode cX5_wide 4 = .ok (.ifCond .eq 19, 3) := by decide +kernel
theorem dX5_wide_7 : decode cX5_wide 7 = .ok (.iload_n 2, 1) := by decide +kernel
theorem dX5_wide_8 : decode cX5_wide 8 = .ok (.invokestatic 91, 3) := by decide +kernel
theorem dX5_wide_11 : decode cX5_wide 11 = .ok (.ifCond .eq 12, 3) := by decide +kernel
theorem dX5_wide_14 : decode cX5_wide 14 = .ok (.aload_n 0, 1) := by decide +kernel
theorem dX5_wide_15 : decode cX5_wide 15 = .ok (.iload_n 1, 1) := by decide +kernel
theorem dX5_wide_16 : decode cX5_wide 16 = .ok (.iload_n 2, 1) := by decide +kernel
theorem dX5_wide_17 : decode cX5_wide 17 = .ok (.invokevirtual 103, 3) := by decide +kernel
theorem dX5_wide_20 : decode cX5_wide 20 = .ok (.goto 9, 3) := by decide +kernel
theorem dX5_wide_23 : decode cX5_wide 23 = .ok (.aload_n 0, 1) := by decide +kernel
theorem dX5_wide_24 : decode cX5_wide 24 = .ok (.ldc 60, 2) := by decide +kernel
theorem dX5_wide_26 : decode cX5_wide 26 = .ok (.invokevirtual 66, 3) := by decide +kernel
theorem dX5_wide_29 : decode cX5_wide 29 = .ok (.ireturn, 1) := by decide +kernel
theorem dX5_guestAt_0 : decode cX5_guestAt 0 = .ok (.bipush 38, 2) := by decide +kernel
theorem dX5_guestAt_2 : decode cX5_guestAt 2 = .ok (.bipush 6, 2) := by decide +kernel
theorem dX5_guestAt_4 : decode cX5_guestAt 4 = .ok (.iload_n 0, 1) := by decide +kernel
theorem dX5_guestAt_5 : decode cX5_guestAt 5 = .ok (.imul, 1) := by decide +kernel
theorem dX5_guestAt_6 : decode cX5_guestAt 6 = .ok (.iadd, 1) := by decide +kernel
theorem dX5_guestAt_7 : decode cX5_guestAt 7 = .ok (.iload_n 1, 1) := by decide +kernel
theorem dX5_guestAt_8 : decode cX5_guestAt 8 = .ok (.iadd, 1) := by decide +kernel
theorem dX5_guestAt_9 : decode cX5_guestAt 9 = .ok (.ireturn, 1) := by decide +kernel
theorem dX5_guestIs_0 : decode cX5_guestIs 0 = .ok (.aload_n 0, 1) := by decide +kernel
theorem dX5_guestIs_1 : decode cX5_guestIs 1 = .ok (.getfield 9, 3) := by decide +kernel
theorem dX5_guestIs_4 : decode cX5_guestIs 4 = .ok (.iload_n 1, 1) := by decide +kernel
theorem dX5_guestIs_5 : decode cX5_guestIs 5 = .ok (.iload_n 2, 1) := by decide +kernel
theorem dX5_guestIs_6 : decode cX5_guestIs 6 = .ok (.invokestatic 106, 3) := by decide +kernel
theorem dX5_guestIs_9 : decode cX5_guestIs 9 = .ok (.iaload, 1) := by decide +kernel
theorem dX5_guestIs_10 : decode cX5_guestIs 10 = .ok (.ireturn, 1) := by decide +kernel
theorem dX5_isGuest_0 : decode cX5_isGuest 0 = .ok (.iload_n 1, 1) := by decide +kernel
theorem dX5_isGuest_1 : decode cX5_isGuest 1 = .ok (.iconst 0, 1) := by decide +kernel
theorem dX5_isGuest_2 : decode cX5_isGuest 2 = .ok (.aload_n 0, 1) := by decide +kernel
theorem dX5_isGuest_3 : decode cX5_isGuest 3 = .ok (.getfield 9, 3) := by decide +kernel
theorem dX5_isGuest_6 : decode cX5_isGuest 6 = .ok (.iconst 1, 1) := by decide +kernel
theorem dX5_isGuest_7 : decode cX5_isGuest 7 = .ok (.iaload, 1) := by decide +kernel
theorem dX5_isGuest_8 : decode cX5_isGuest 8 = .ok (.iconst 1, 1) := by decide +kernel
theorem dX5_isGuest_9 : decode cX5_isGuest 9 = .ok (.isub, 1) := by decide +kernel
theorem dX5_isGuest_10 : decode cX5_isGuest 10 = .ok (.invokestatic 70, 3) := by decide +kernel
theorem dX5_isGuest_13 : decode cX5_isGuest 13 = .ok (.ireturn, 1) := by decide +kernel
theorem dX5_isKind_0 : decode cX5_isKind 0 = .ok (.iload_n 0, 1) := by decide +kernel
theorem dX5_isKind_1 : decode cX5_isKind 1 = .ok (.iconst 0, 1) := by decide +kernel
theorem dX5_isKind_2 : decode cX5_isKind 2 = .ok (.bipush 6, 2) := by decide +kernel
theorem dX5_isKind_4 : decode cX5_isKind 4 = .ok (.invokestatic 70, 3) := by decide +kernel
theorem dX5_isKind_7 : decode cX5_isKind 7 = .ok (.ireturn, 1) := by decide +kernel
theorem dX5_comesIn_0 : decode cX5_comesIn 0 = .ok (.aload_n 0, 1) := by decide +kernel
theorem dX5_comesIn_1 : decode cX5_comesIn 1 = .ok (.getfield 9, 3) := by decide +kernel
theorem dX5_comesIn_4 : decode cX5_comesIn 4 = .ok (.iconst 1, 1) := by decide +kernel
theorem dX5_comesIn_5 : decode cX5_comesIn 5 = .ok (.iaload, 1) := by decide +kernel
theorem dX5_comesIn_6 : decode cX5_comesIn 6 = .ok (.istore_n 3, 1) := by decide +kernel
theorem dX5_comesIn_7 : decode cX5_comesIn 7 = .ok (.aload_n 0, 1) := by decide +kernel
theorem dX5_comesIn_8 : decode cX5_comesIn 8 = .ok (.getfield 9, 3) := by decide +kernel
theorem dX5_comesIn_11 : decode cX5_comesIn 11 = .ok (.iload_n 3, 1) := by decide +kernel
theorem dX5_comesIn_12 : decode cX5_comesIn 12 = .ok (.iconst 0, 1) := by decide +kernel
theorem dX5_comesIn_13 : decode cX5_comesIn 13 = .ok (.invokestatic 106, 3) := by decide +kernel
theorem dX5_comesIn_16 : decode cX5_comesIn 16 = .ok (.iload_n 1, 1) := by decide +kernel
theorem dX5_comesIn_17 : decode cX5_comesIn 17 = .ok (.iastore, 1) := by decide +kernel
theorem dX5_comesIn_18 : decode cX5_comesIn 18 = .ok (.aload_n 0, 1) := by decide +kernel
theorem dX5_comesIn_19 : decode cX5_comesIn 19 = .ok (.getfield 9, 3) := by decide +kernel
theorem dX5_comesIn_22 : decode cX5_comesIn 22 = .ok (.iload_n 3, 1) := by decide +kernel
theorem dX5_comesIn_23 : decode cX5_comesIn 23 = .ok (.iconst 1, 1) := by decide +kernel
theorem dX5_comesIn_24 : decode cX5_comesIn 24 = .ok (.invokestatic 106, 3) := by decide +kernel
theorem dX5_comesIn_27 : decode cX5_comesIn 27 = .ok (.iload_n 2, 1) := by decide +kernel
theorem dX5_comesIn_28 : decode cX5_comesIn 28 = .ok (.iastore, 1) := by decide +kernel
theorem dX5_comesIn_29 : decode cX5_comesIn 29 = .ok (.aload_n 0, 1) := by decide +kernel
theorem dX5_comesIn_30 : decode cX5_comesIn 30 = .ok (.getfield 9, 3) := by decide +kernel
theorem dX5_comesIn_33 : decode cX5_comesIn 33 = .ok (.iload_n 3, 1) := by decide +kernel
theorem dX5_comesIn_34 : decode cX5_comesIn 34 = .ok (.iconst 2, 1) := by decide +kernel
theorem dX5_comesIn_35 : decode cX5_comesIn 35 = .ok (.invokestatic 106, 3) := by decide +kernel
theorem dX5_comesIn_38 : decode cX5_comesIn 38 = .ok (.bipush 10, 2) := by decide +kernel
theorem dX5_comesIn_40 : decode cX5_comesIn 40 = .ok (.iastore, 1) := by decide +kernel
theorem dX5_comesIn_41 : decode cX5_comesIn 41 = .ok (.aload_n 0, 1) := by decide +kernel
theorem dX5_comesIn_42 : decode cX5_comesIn 42 = .ok (.getfield 9, 3) := by decide +kernel
theorem dX5_comesIn_45 : decode cX5_comesIn 45 = .ok (.iload_n 3, 1) := by decide +kernel
theorem dX5_comesIn_46 : decode cX5_comesIn 46 = .ok (.iconst 3, 1) := by decide +kernel
theorem dX5_comesIn_47 : decode cX5_comesIn 47 = .ok (.invokestatic 106, 3) := by decide +kernel
theorem dX5_comesIn_50 : decode cX5_comesIn 50 = .ok (.iload_n 2, 1) := by decide +kernel
theorem dX5_comesIn_51 : decode cX5_comesIn 51 = .ok (.iastore, 1) := by decide +kernel
theorem dX5_comesIn_52 : decode cX5_comesIn 52 = .ok (.aload_n 0, 1) := by decide +kernel
theorem dX5_comesIn_53 : decode cX5_comesIn 53 = .ok (.getfield 9, 3) := by decide +kernel
theorem dX5_comesIn_56 : decode cX5_comesIn 56 = .ok (.iload_n 3, 1) := by decide +kernel
theorem dX5_comesIn_57 : decode cX5_comesIn 57 = .ok (.iconst 4, 1) := by decide +kernel
theorem dX5_comesIn_58 : decode cX5_comesIn 58 = .ok (.invokestatic 106, 3) := by decide +kernel
theorem dX5_comesIn_61 : decode cX5_comesIn 61 = .ok (.iconst 0, 1) := by decide +kernel
theorem dX5_comesIn_62 : decode cX5_comesIn 62 = .ok (.iastore, 1) := by decide +kernel
theorem dX5_comesIn_63 : decode cX5_comesIn 63 = .ok (.aload_n 0, 1) := by decide +kernel
theorem dX5_comesIn_64 : decode cX5_comesIn 64 = .ok (.getfield 9, 3) := by decide +kernel
theorem dX5_comesIn_67 : decode cX5_comesIn 67 = .ok (.iload_n 3, 1) := by decide +kernel
theorem dX5_comesIn_68 : decode cX5_comesIn 68 = .ok (.iconst 5, 1) := by decide +kernel
theorem dX5_comesIn_69 : decode cX5_comesIn 69 = .ok (.invokestatic 106, 3) := by decide +kernel
theorem dX5_comesIn_72 : decode cX5_comesIn 72 = .ok (.iconst 0, 1) := by decide +kernel
theorem dX5_comesIn_73 : decode cX5_comesIn 73 = .ok (.iastore, 1) := by decide +kernel
theorem dX5_comesIn_74 : decode cX5_comesIn 74 = .ok (.aload_n 0, 1) := by decide +kernel
theorem dX5_comesIn_75 : decode cX5_comesIn 75 = .ok (.getfield 9, 3) := by decide +kernel
theorem dX5_comesIn_78 : decode cX5_comesIn 78 = .ok (.iconst 1, 1) := by decide +kernel
theorem dX5_comesIn_79 : decode cX5_comesIn 79 = .ok (.dup2, 1) := by decide +kernel
theorem dX5_comesIn_80 : decode cX5_comesIn 80 = .ok (.iaload, 1) := by decide +kernel
theorem dX5_comesIn_81 : decode cX5_comesIn 81 = .ok (.iconst 1, 1) := by decide +kernel
theorem dX5_comesIn_82 : decode cX5_comesIn 82 = .ok (.iadd, 1) := by decide +kernel
theorem dX5_comesIn_83 : decode cX5_comesIn 83 = .ok (.iastore, 1) := by decide +kernel
theorem dX5_comesIn_84 : decode cX5_comesIn 84 = .ok (.iload_n 3, 1) := by decide +kernel
theorem dX5_comesIn_85 : decode cX5_comesIn 85 = .ok (.ireturn, 1) := by decide +kernel
theorem dX5_guest_0 : decode cX5_guest 0 = .ok (.iload_n 1, 1) := by decide +kernel
theorem dX5_guest_1 : decode cX5_guest 1 = .ok (.invokestatic 109, 3) := by decide +kernel
theorem dX5_guest_4 : decode cX5_guest 4 = .ok (.ifCond .eq 10, 3) := by decide +kernel
theorem dX5_guest_7 : decode cX5_guest 7 = .ok (.iload_n 2, 1) := by decide +kernel
theorem dX5_guest_8 : decode cX5_guest 8 = .ok (.invokestatic 82, 3) := by decide +kernel
theorem dX5_guest_11 : decode cX5_guest 11 = .ok (.ifCond .ne 10, 3) := by decide +kernel
theorem dX5_guest_14 : decode cX5_guest 14 = .ok (.aload_n 0, 1) := by decide +kernel
theorem dX5_guest_15 : decode cX5_guest 15 = .ok (.ldc 60, 2) := by decide +kernel
theorem dX5_guest_17 : decode cX5_guest 17 = .ok (.invokevirtual 66, 3) := by decide +kernel
theorem dX5_guest_20 : decode cX5_guest 20 = .ok (.ireturn, 1) := by decide +kernel
theorem dX5_guest_21 : decode cX5_guest 21 = .ok (.aload_n 0, 1) := by decide +kernel
theorem dX5_guest_22 : decode cX5_guest 22 = .ok (.getfield 9, 3) := by decide +kernel
theorem dX5_guest_25 : decode cX5_guest 25 = .ok (.iconst 1, 1) := by decide +kernel
theorem dX5_guest_26 : decode cX5_guest 26 = .ok (.iaload, 1) := by decide +kernel
theorem dX5_guest_27 : decode cX5_guest 27 = .ok (.bipush 8, 2) := by decide +kernel
theorem dX5_guest_29 : decode cX5_guest 29 = .ok (.if_icmp .ne 12, 3) := by decide +kernel
theorem dX5_guest_32 : decode cX5_guest 32 = .ok (.aload_n 0, 1) := by decide +kernel
theorem dX5_guest_33 : decode cX5_guest 33 = .ok (.ldc 112, 2) := by decide +kernel
theorem dX5_guest_35 : decode cX5_guest 35 = .ok (.invokevirtual 66, 3) := by decide +kernel
theorem dX5_guest_38 : decode cX5_guest 38 = .ok (.goto 9, 3) := by decide +kernel
theorem dX5_guest_41 : decode cX5_guest 41 = .ok (.aload_n 0, 1) := by decide +kernel
theorem dX5_guest_42 : decode cX5_guest 42 = .ok (.iload_n 1, 1) := by decide +kernel
theorem dX5_guest_43 : decode cX5_guest 43 = .ok (.iload_n 2, 1) := by decide +kernel
theorem dX5_guest_44 : decode cX5_guest 44 = .ok (.invokevirtual 113, 3) := by decide +kernel
theorem dX5_guest_47 : decode cX5_guest 47 = .ok (.ireturn, 1) := by decide +kernel
theorem dX5_needs_0 : decode cX5_needs 0 = .ok (.aload_n 0, 1) := by decide +kernel
theorem dX5_needs_1 : decode cX5_needs 1 = .ok (.iload_n 1, 1) := by decide +kernel
theorem dX5_needs_2 : decode cX5_needs 2 = .ok (.iconst 2, 1) := by decide +kernel
theorem dX5_needs_3 : decode cX5_needs 3 = .ok (.invokevirtual 116, 3) := by decide +kernel
theorem dX5_needs_6 : decode cX5_needs 6 = .ok (.istore_n 2, 1) := by decide +kernel
theorem dX5_needs_7 : decode cX5_needs 7 = .ok (.iconst 0, 1) := by decide +kernel
theorem dX5_needs_8 : decode cX5_needs 8 = .ok (.aload_n 0, 1) := by decide +kernel
theorem dX5_needs_9 : decode cX5_needs 9 = .ok (.iload_n 1, 1) := by decide +kernel
theorem dX5_needs_10 : decode cX5_needs 10 = .ok (.iconst 4, 1) := by decide +kernel
theorem dX5_needs_11 : decode cX5_needs 11 = .ok (.invokevirtual 116, 3) := by decide +kernel
theorem dX5_needs_14 : decode cX5_needs 14 = .ok (.iconst 3, 1) := by decide +kernel
theorem dX5_needs_15 : decode cX5_needs 15 = .ok (.if_icmp .lt 9, 3) := by decide +kernel
theorem dX5_needs_18 : decode cX5_needs 18 = .ok (.iload_n 2, 1) := by decide +kernel
theorem dX5_needs_19 : decode cX5_needs 19 = .ok (.iconst 4, 1) := by decide +kernel
theorem dX5_needs_20 : decode cX5_needs 20 = .ok (.isub, 1) := by decide +kernel
theorem dX5_needs_21 : decode cX5_needs 21 = .ok (.goto 6, 3) := by decide +kernel
theorem dX5_needs_24 : decode cX5_needs 24 = .ok (.iload_n 2, 1) := by decide +kernel
theorem dX5_needs_25 : decode cX5_needs 25 = .ok (.iconst 4, 1) := by decide +kernel
theorem dX5_needs_26 : decode cX5_needs 26 = .ok (.iadd, 1) := by decide +kernel
theorem dX5_needs_27 : decode cX5_needs 27 = .ok (.invokestatic 98, 3) := by decide +kernel
theorem dX5_needs_30 : decode cX5_needs 30 = .ok (.istore_n 3, 1) := by decide +kernel
theorem dX5_needs_31 : decode cX5_needs 31 = .ok (.aload_n 0, 1) := by decide +kernel
theorem dX5_needs_32 : decode cX5_needs 32 = .ok (.iload_n 1, 1) := by decide +kernel
theorem dX5_needs_33 : decode cX5_needs 33 = .ok (.iconst 0, 1) := by decide +kernel
theorem dX5_needs_34 : decode cX5_needs 34 = .ok (.invokevirtual 116, 3) := by decide +kernel
theorem dX5_needs_37 : decode cX5_needs 37 = .ok (.tableswitch 73 1 6 #[39, 46, 50, 56, 71, 41], 39) := by decide +kernel
theorem dX5_needs_76 : decode cX5_needs 76 = .ok (.iload_n 3, 1) := by decide +kernel
theorem dX5_needs_77 : decode cX5_needs 77 = .ok (.ireturn, 1) := by decide +kernel
theorem dX5_needs_78 : decode cX5_needs 78 = .ok (.iload_n 3, 1) := by decide +kernel
theorem dX5_needs_79 : decode cX5_needs 79 = .ok (.bipush 6, 2) := by decide +kernel
theorem dX5_needs_81 : decode cX5_needs 81 = .ok (.iadd, 1) := by decide +kernel
theorem dX5_needs_82 : decode cX5_needs 82 = .ok (.ireturn, 1) := by decide +kernel
theorem dX5_needs_83 : decode cX5_needs 83 = .ok (.iload_n 2, 1) := by decide +kernel
theorem dX5_needs_84 : decode cX5_needs 84 = .ok (.iconst 2, 1) := by decide +kernel
theorem dX5_needs_85 : decode cX5_needs 85 = .ok (.idiv, 1) := by decide +kernel
theorem dX5_needs_86 : decode cX5_needs 86 = .ok (.ireturn, 1) := by decide +kernel
theorem dX5_needs_87 : decode cX5_needs 87 = .ok (.iload_n 2, 1) := by decide +kernel
theorem dX5_needs_88 : decode cX5_needs 88 = .ok (.iconst 2, 1) := by decide +kernel
theorem dX5_needs_89 : decode cX5_needs 89 = .ok (.idiv, 1) := by decide +kernel
theorem dX5_needs_90 : decode cX5_needs 90 = .ok (.iconst 3, 1) := by decide +kernel
theorem dX5_needs_91 : decode cX5_needs 91 = .ok (.iadd, 1) := by decide +kernel
theorem dX5_needs_92 : decode cX5_needs 92 = .ok (.ireturn, 1) := by decide +kernel
theorem dX5_needs_93 : decode cX5_needs 93 = .ok (.iload_n 2, 1) := by decide +kernel
theorem dX5_needs_94 : decode cX5_needs 94 = .ok (.iconst 2, 1) := by decide +kernel
theorem dX5_needs_95 : decode cX5_needs 95 = .ok (.idiv, 1) := by decide +kernel
theorem dX5_needs_96 : decode cX5_needs 96 = .ok (.iconst 3, 1) := by decide +kernel
theorem dX5_needs_97 : decode cX5_needs 97 = .ok (.iadd, 1) := by decide +kernel
theorem dX5_needs_98 : decode cX5_needs 98 = .ok (.aload_n 0, 1) := by decide +kernel
theorem dX5_needs_99 : decode cX5_needs 99 = .ok (.getfield 9, 3) := by decide +kernel
theorem dX5_needs_102 : decode cX5_needs 102 = .ok (.iconst 0, 1) := by decide +kernel
theorem dX5_needs_103 : decode cX5_needs 103 = .ok (.iaload, 1) := by decide +kernel
theorem dX5_needs_104 : decode cX5_needs 104 = .ok (.iconst 2, 1) := by decide +kernel
theorem dX5_needs_105 : decode cX5_needs 105 = .ok (.irem, 1) := by decide +kernel
theorem dX5_needs_106 : decode cX5_needs 106 = .ok (.iadd, 1) := by decide +kernel
theorem dX5_needs_107 : decode cX5_needs 107 = .ok (.ireturn, 1) := by decide +kernel
theorem dX5_needs_108 : decode cX5_needs 108 = .ok (.iconst 4, 1) := by decide +kernel
theorem dX5_needs_109 : decode cX5_needs 109 = .ok (.ireturn, 1) := by decide +kernel
theorem dX5_needs_110 : decode cX5_needs 110 = .ok (.iload_n 2, 1) := by decide +kernel
theorem dX5_needs_111 : decode cX5_needs 111 = .ok (.ireturn, 1) := by decide +kernel
theorem dX5_steps_0 : decode cX5_steps 0 = .ok (.aload_n 0, 1) := by decide +kernel
theorem dX5_steps_1 : decode cX5_steps 1 = .ok (.iload_n 1, 1) := by decide +kernel
theorem dX5_steps_2 : decode cX5_steps 2 = .ok (.iconst 0, 1) := by decide +kernel
theorem dX5_steps_3 : decode cX5_steps 3 = .ok (.invokevirtual 116, 3) := by decide +kernel
theorem dX5_steps_6 : decode cX5_steps 6 = .ok (.tableswitch 46 1 6 #[38, 40, 42, 46, 44, 38], 38) := by decide +kernel
theorem dX5_steps_44 : decode cX5_steps 44 = .ok (.iconst 1, 1) := by decide +kernel
theorem dX5_steps_45 : decode cX5_steps 45 = .ok (.ireturn, 1) := by decide +kernel
theorem dX5_steps_46 : decode cX5_steps 46 = .ok (.iconst 4, 1) := by decide +kernel
theorem dX5_steps_47 : decode cX5_steps 47 = .ok (.ireturn, 1) := by decide +kernel
theorem dX5_steps_48 : decode cX5_steps 48 = .ok (.iconst 3, 1) := by decide +kernel
theorem dX5_steps_49 : decode cX5_steps 49 = .ok (.ireturn, 1) := by decide +kernel
theorem dX5_steps_50 : decode cX5_steps 50 = .ok (.iconst 5, 1) := by decide +kernel
theorem dX5_steps_51 : decode cX5_steps 51 = .ok (.ireturn, 1) := by decide +kernel
theorem dX5_steps_52 : decode cX5_steps 52 = .ok (.iconst 2, 1) := by decide +kernel
theorem dX5_steps_53 : decode cX5_steps 53 = .ok (.ireturn, 1) := by decide +kernel
theorem dX5_laughs_0 : decode cX5_laughs 0 = .ok (.aload_n 0, 1) := by decide +kernel
theorem dX5_laughs_1 : decode cX5_laughs 1 = .ok (.iload_n 1, 1) := by decide +kernel
theorem dX5_laughs_2 : decode cX5_laughs 2 = .ok (.iconst 0, 1) := by decide +kernel
theorem dX5_laughs_3 : decode cX5_laughs 3 = .ok (.invokevirtual 116, 3) := by decide +kernel
theorem dX5_laughs_6 : decode cX5_laughs 6 = .ok (.tableswitch 60 1 6 #[38, 43, 54, 56, 58, 40], 38) := by decide +kernel
theorem dX5_laughs_44 : decode cX5_laughs 44 = .ok (.iconst 5, 1) := by decide +kernel
theorem dX5_laughs_45 : decode cX5_laughs 45 = .ok (.ireturn, 1) := by decide +kernel
theorem dX5_laughs_46 : decode cX5_laughs 46 = .ok (.bipush 50, 2) := by decide +kernel
theorem dX5_laughs_48 : decode cX5_laughs 48 = .ok (.ireturn, 1) := by decide +kernel
theorem dX5_laughs_49 : decode cX5_laughs 49 = .ok (.iconst 3, 1) := by decide +kernel
theorem dX5_laughs_50 : decode cX5_laughs 50 = .ok (.aload_n 0, 1) := by decide +kernel
theorem dX5_laughs_51 : decode cX5_laughs 51 = .ok (.getfield 9, 3) := by decide +kernel
theorem dX5_laughs_54 : decode cX5_laughs 54 = .ok (.iconst 0, 1) := by decide +kernel
theorem dX5_laughs_55 : decode cX5_laughs 55 = .ok (.iaload, 1) := by decide +kernel
theorem dX5_laughs_56 : decode cX5_laughs 56 = .ok (.iconst 3, 1) := by decide +kernel
theorem dX5_laughs_57 : decode cX5_laughs 57 = .ok (.irem, 1) := by decide +kernel
theorem dX5_laughs_58 : decode cX5_laughs 58 = .ok (.iadd, 1) := by decide +kernel
theorem dX5_laughs_59 : decode cX5_laughs 59 = .ok (.ireturn, 1) := by decide +kernel
theorem dX5_laughs_60 : decode cX5_laughs 60 = .ok (.iconst 0, 1) := by decide +kernel
theorem dX5_laughs_61 : decode cX5_laughs 61 = .ok (.ireturn, 1) := by decide +kernel
theorem dX5_laughs_62 : decode cX5_laughs 62 = .ok (.iconst 1, 1) := by decide +kernel
theorem dX5_laughs_63 : decode cX5_laughs 63 = .ok (.ireturn, 1) := by decide +kernel
theorem dX5_laughs_64 : decode cX5_laughs 64 = .ok (.iconst 2, 1) := by decide +kernel
theorem dX5_laughs_65 : decode cX5_laughs 65 = .ok (.ireturn, 1) := by decide +kernel
theorem dX5_laughs_66 : decode cX5_laughs 66 = .ok (.iconst 3, 1) := by decide +kernel
theorem dX5_laughs_67 : decode cX5_laughs 67 = .ok (.ireturn, 1) := by decide +kernel
theorem dX5_laces_0 : decode cX5_laces 0 = .ok (.aload_n 0, 1) := by decide +kernel
theorem dX5_laces_1 : decode cX5_laces 1 = .ok (.iload_n 1, 1) := by decide +kernel
theorem dX5_laces_2 : decode cX5_laces 2 = .ok (.iconst 0, 1) := by decide +kernel
theorem dX5_laces_3 : decode cX5_laces 3 = .ok (.invokevirtual 116, 3) := by decide +kernel
theorem dX5_laces_6 : decode cX5_laces 6 = .ok (.istore_n 2, 1) := by decide +kernel
theorem dX5_laces_7 : decode cX5_laces 7 = .ok (.iload_n 2, 1) := by decide +kernel
theorem dX5_laces_8 : decode cX5_laces 8 = .ok (.iconst 3, 1) := by decide +kernel
theorem dX5_laces_9 : decode cX5_laces 9 = .ok (.if_icmp .ne 7, 3) := by decide +kernel
theorem dX5_laces_12 : decode cX5_laces 12 = .ok (.iconst 4, 1) := by decide +kernel
theorem dX5_laces_13 : decode cX5_laces 13 = .ok (.goto 14, 3) := by decide +kernel
theorem dX5_laces_16 : decode cX5_laces 16 = .ok (.iload_n 2, 1) := by decide +kernel
theorem dX5_laces_17 : decode cX5_laces 17 = .ok (.iconst 4, 1) := by decide +kernel
theorem dX5_laces_18 : decode cX5_laces 18 = .ok (.if_icmp .ne 8, 3) := by decide +kernel
theorem dX5_laces_21 : decode cX5_laces 21 = .ok (.bipush 8, 2) := by decide +kernel
theorem dX5_laces_23 : decode cX5_laces 23 = .ok (.goto 4, 3) := by decide +kernel
theorem dX5_laces_26 : decode cX5_laces 26 = .ok (.iconst 0, 1) := by decide +kernel
theorem dX5_laces_27 : decode cX5_laces 27 = .ok (.ireturn, 1) := by decide +kernel
theorem dX5_told_0 : decode cX5_told 0 = .ok (.iload_n 2, 1) := by decide +kernel
theorem dX5_told_1 : decode cX5_told 1 = .ok (.tableswitch 55 6 9 #[31, 37, 43, 49], 31) := by decide +kernel
theorem dX5_told_32 : decode cX5_told 32 = .ok (.aload_n 0, 1) := by decide +kernel
theorem dX5_told_33 : decode cX5_told 33 = .ok (.iload_n 1, 1) := by decide +kernel
theorem dX5_told_34 : decode cX5_told 34 = .ok (.invokevirtual 119, 3) := by decide +kernel
theorem dX5_told_37 : decode cX5_told 37 = .ok (.ireturn, 1) := by decide +kernel
theorem dX5_told_38 : decode cX5_told 38 = .ok (.aload_n 0, 1) := by decide +kernel
theorem dX5_told_39 : decode cX5_told 39 = .ok (.iload_n 1, 1) := by decide +kernel
theorem dX5_told_40 : decode cX5_told 40 = .ok (.invokevirtual 122, 3) := by decide +kernel
theorem dX5_told_43 : decode cX5_told 43 = .ok (.ireturn, 1) := by decide +kernel
theorem dX5_told_44 : decode cX5_told 44 = .ok (.aload_n 0, 1) := by decide +kernel
theorem dX5_told_45 : decode cX5_told 45 = .ok (.iload_n 1, 1) := by decide +kernel
theorem dX5_told_46 : decode cX5_told 46 = .ok (.invokevirtual 125, 3) := by decide +kernel
theorem dX5_told_49 : decode cX5_told 49 = .ok (.ireturn, 1) := by decide +kernel
theorem dX5_told_50 : decode cX5_told 50 = .ok (.aload_n 0, 1) := by decide +kernel
theorem dX5_told_51 : decode cX5_told 51 = .ok (.iload_n 1, 1) := by decide +kernel
theorem dX5_told_52 : decode cX5_told 52 = .ok (.invokevirtual 128, 3) := by decide +kernel
theorem dX5_told_55 : decode cX5_told 55 = .ok (.ireturn, 1) := by decide +kernel
theorem dX5_told_56 : decode cX5_told 56 = .ok (.aload_n 0, 1) := by decide +kernel
theorem dX5_told_57 : decode cX5_told 57 = .ok (.iload_n 1, 1) := by decide +kernel
theorem dX5_told_58 : decode cX5_told 58 = .ok (.iload_n 2, 1) := by decide +kernel
theorem dX5_told_59 : decode cX5_told 59 = .ok (.invokevirtual 116, 3) := by decide +kernel
theorem dX5_told_62 : decode cX5_told 62 = .ok (.ireturn, 1) := by decide +kernel
theorem dX5_of_0 : decode cX5_of 0 = .ok (.aload_n 0, 1) := by decide +kernel
theorem dX5_of_1 : decode cX5_of 1 = .ok (.iload_n 1, 1) := by decide +kernel
theorem dX5_of_2 : decode cX5_of 2 = .ok (.invokevirtual 131, 3) := by decide +kernel
theorem dX5_of_5 : decode cX5_of 5 = .ok (.ifCond .eq 22, 3) := by decide +kernel
theorem dX5_of_8 : decode cX5_of 8 = .ok (.iload_n 2, 1) := by decide +kernel
theorem dX5_of_9 : decode cX5_of 9 = .ok (.iconst 0, 1) := by decide +kernel
theorem dX5_of_10 : decode cX5_of 10 = .ok (.bipush 9, 2) := by decide +kernel
theorem dX5_of_12 : decode cX5_of 12 = .ok (.invokestatic 70, 3) := by decide +kernel
theorem dX5_of_15 : decode cX5_of 15 = .ok (.ifCond .eq 12, 3) := by decide +kernel
theorem dX5_of_18 : decode cX5_of 18 = .ok (.aload_n 0, 1) := by decide +kernel
theorem dX5_of_19 : decode cX5_of 19 = .ok (.iload_n 1, 1) := by decide +kernel
theorem dX5_of_20 : decode cX5_of 20 = .ok (.iload_n 2, 1) := by decide +kernel
theorem dX5_of_21 : decode cX5_of 21 = .ok (.invokevirtual 134, 3) := by decide +kernel
theorem dX5_of_24 : decode cX5_of 24 = .ok (.goto 9, 3) := by decide +kernel
theorem dX5_of_27 : decode cX5_of 27 = .ok (.aload_n 0, 1) := by decide +kernel
theorem dX5_of_28 : decode cX5_of 28 = .ok (.ldc 60, 2) := by decide +kernel
theorem dX5_of_30 : decode cX5_of 30 = .ok (.invokevirtual 66, 3) := by decide +kernel
theorem dX5_of_33 : decode cX5_of 33 = .ok (.ireturn, 1) := by decide +kernel
theorem dX5_isField_0 : decode cX5_isField 0 = .ok (.iload_n 0, 1) := by decide +kernel
theorem dX5_isField_1 : decode cX5_isField 1 = .ok (.tableswitch 69 0 5 #[39, 44, 49, 44, 57, 62], 39) := by decide +kernel
theorem dX5_isField_40 : decode cX5_isField 40 = .ok (.iload_n 1, 1) := by decide +kernel
theorem dX5_isField_41 : decode cX5_isField 41 = .ok (.invokestatic 109, 3) := by decide +kernel
theorem dX5_isField_44 : decode cX5_isField 44 = .ok (.ireturn, 1) := by decide +kernel
theorem dX5_isField_45 : decode cX5_isField 45 = .ok (.iload_n 1, 1) := by decide +kernel
theorem dX5_isField_46 : decode cX5_isField 46 = .ok (.invokestatic 82, 3) := by decide +kernel
theorem dX5_isField_49 : decode cX5_isField 49 = .ok (.ireturn, 1) := by decide +kernel
theorem dX5_isField_50 : decode cX5_isField 50 = .ok (.iload_n 1, 1) := by decide +kernel
theorem dX5_isField_51 : decode cX5_isField 51 = .ok (.iconst 1, 1) := by decide +kernel
theorem dX5_isField_52 : decode cX5_isField 52 = .ok (.bipush 40, 2) := by decide +kernel
theorem dX5_isField_54 : decode cX5_isField 54 = .ok (.invokestatic 70, 3) := by decide +kernel
theorem dX5_isField_57 : decode cX5_isField 57 = .ok (.ireturn, 1) := by decide +kernel
theorem dX5_isField_58 : decode cX5_isField 58 = .ok (.iload_n 1, 1) := by decide +kernel
theorem dX5_isField_59 : decode cX5_isField 59 = .ok (.invokestatic 74, 3) := by decide +kernel
theorem dX5_isField_62 : decode cX5_isField 62 = .ok (.ireturn, 1) := by decide +kernel
theorem dX5_isField_63 : decode cX5_isField 63 = .ok (.iload_n 1, 1) := by decide +kernel
theorem dX5_isField_64 : decode cX5_isField 64 = .ok (.iconst 0, 1) := by decide +kernel
theorem dX5_isField_65 : decode cX5_isField 65 = .ok (.iconst 1, 1) := by decide +kernel
theorem dX5_isField_66 : decode cX5_isField 66 = .ok (.invokestatic 70, 3) := by decide +kernel
theorem dX5_isField_69 : decode cX5_isField 69 = .ok (.ireturn, 1) := by decide +kernel
theorem dX5_isField_70 : decode cX5_isField 70 = .ok (.iconst 0, 1) := by decide +kernel
theorem dX5_isField_71 : decode cX5_isField 71 = .ok (.ireturn, 1) := by decide +kernel
theorem dX5_change_0 : decode cX5_change 0 = .ok (.aload_n 0, 1) := by decide +kernel
theorem dX5_change_1 : decode cX5_change 1 = .ok (.iload_n 1, 1) := by decide +kernel
theorem dX5_change_2 : decode cX5_change 2 = .ok (.invokevirtual 131, 3) := by decide +kernel
theorem dX5_change_5 : decode cX5_change 5 = .ok (.ifCond .eq 24, 3) := by decide +kernel
theorem dX5_change_8 : decode cX5_change 8 = .ok (.iload_n 2, 1) := by decide +kernel
theorem dX5_change_9 : decode cX5_change 9 = .ok (.iload_n 3, 1) := by decide +kernel
theorem dX5_change_10 : decode cX5_change 10 = .ok (.invokestatic 137, 3) := by decide +kernel
theorem dX5_change_13 : decode cX5_change 13 = .ok (.ifCond .eq 16, 3) := by decide +kernel
theorem dX5_change_16 : decode cX5_change 16 = .ok (.aload_n 0, 1) := by decide +kernel
theorem dX5_change_17 : decode cX5_change 17 = .ok (.iload_n 1, 1) := by decide +kernel
theorem dX5_change_18 : decode cX5_change 18 = .ok (.iload_n 2, 1) := by decide +kernel
theorem dX5_change_19 : decode cX5_change 19 = .ok (.invokestatic 106, 3) := by decide +kernel
theorem dX5_change_22 : decode cX5_change 22 = .ok (.iload_n 3, 1) := by decide +kernel
theorem dX5_change_23 : decode cX5_change 23 = .ok (.invokevirtual 78, 3) := by decide +kernel
theorem dX5_change_26 : decode cX5_change 26 = .ok (.goto 9, 3) := by decide +kernel
theorem dX5_change_29 : decode cX5_change 29 = .ok (.aload_n 0, 1) := by decide +kernel
theorem dX5_change_30 : decode cX5_change 30 = .ok (.ldc 60, 2) := by decide +kernel
theorem dX5_change_32 : decode cX5_change 32 = .ok (.invokevirtual 66, 3) := by decide +kernel
theorem dX5_change_35 : decode cX5_change 35 = .ok (.ireturn, 1) := by decide +kernel
theorem dX5_reachOf_0 : decode cX5_reachOf 0 = .ok (.aload_n 0, 1) := by decide +kernel
theorem dX5_reachOf_1 : decode cX5_reachOf 1 = .ok (.iload_n 1, 1) := by decide +kernel
theorem dX5_reachOf_2 : decode cX5_reachOf 2 = .ok (.invokevirtual 119, 3) := by decide +kernel
theorem dX5_reachOf_5 : decode cX5_reachOf 5 = .ok (.istore_n 3, 1) := by decide +kernel
theorem dX5_reachOf_6 : decode cX5_reachOf 6 = .ok (.iconst 1, 1) := by decide +kernel
theorem dX5_reachOf_7 : decode cX5_reachOf 7 = .ok (.aload_n 0, 1) := by decide +kernel
theorem dX5_reachOf_8 : decode cX5_reachOf 8 = .ok (.iload_n 1, 1) := by decide +kernel
theorem dX5_reachOf_9 : decode cX5_reachOf 9 = .ok (.iconst 1, 1) := by decide +kernel
theorem dX5_reachOf_10 : decode cX5_reachOf 10 = .ok (.invokevirtual 116, 3) := by decide +kernel
theorem dX5_reachOf_13 : decode cX5_reachOf 13 = .ok (.ishl, 1) := by decide +kernel
theorem dX5_reachOf_14 : decode cX5_reachOf 14 = .ok (.istore 4, 2) := by decide +kernel
theorem dX5_reachOf_16 : decode cX5_reachOf 16 = .ok (.iconst (-1), 1) := by decide +kernel
theorem dX5_reachOf_17 : decode cX5_reachOf 17 = .ok (.istore 5, 2) := by decide +kernel
theorem dX5_reachOf_19 : decode cX5_reachOf 19 = .ok (.iload 5, 2) := by decide +kernel
theorem dX5_reachOf_21 : decode cX5_reachOf 21 = .ok (.iconst 1, 1) := by decide +kernel
theorem dX5_reachOf_22 : decode cX5_reachOf 22 = .ok (.if_icmp .gt 58, 3) := by decide +kernel
theorem dX5_reachOf_25 : decode cX5_reachOf 25 = .ok (.aload_n 0, 1) := by decide +kernel
theorem dX5_reachOf_26 : decode cX5_reachOf 26 = .ok (.iload_n 1, 1) := by decide +kernel
theorem dX5_reachOf_27 : decode cX5_reachOf 27 = .ok (.iconst 1, 1) := by decide +kernel
theorem dX5_reachOf_28 : decode cX5_reachOf 28 = .ok (.invokevirtual 116, 3) := by decide +kernel
theorem dX5_reachOf_31 : decode cX5_reachOf 31 = .ok (.iload 5, 2) := by decide +kernel
theorem dX5_reachOf_33 : decode cX5_reachOf 33 = .ok (.iadd, 1) := by decide +kernel
theorem dX5_reachOf_34 : decode cX5_reachOf 34 = .ok (.istore 6, 2) := by decide +kernel
theorem dX5_reachOf_36 : decode cX5_reachOf 36 = .ok (.iload 6, 2) := by decide +kernel
theorem dX5_reachOf_38 : decode cX5_reachOf 38 = .ok (.invokestatic 82, 3) := by decide +kernel
theorem dX5_reachOf_41 : decode cX5_reachOf 41 = .ok (.ifCond .eq 33, 3) := by decide +kernel
theorem dX5_reachOf_44 : decode cX5_reachOf 44 = .ok (.aload_n 0, 1) := by decide +kernel
theorem dX5_reachOf_45 : decode cX5_reachOf 45 = .ok (.iload 6, 2) := by decide +kernel
theorem dX5_reachOf_47 : decode cX5_reachOf 47 = .ok (.iload_n 2, 1) := by decide +kernel
theorem dX5_reachOf_48 : decode cX5_reachOf 48 = .ok (.invokevirtual 103, 3) := by decide +kernel
theorem dX5_reachOf_51 : decode cX5_reachOf 51 = .ok (.iload_n 3, 1) := by decide +kernel
theorem dX5_reachOf_52 : decode cX5_reachOf 52 = .ok (.if_icmp .lt 22, 3) := by decide +kernel
theorem dX5_reachOf_55 : decode cX5_reachOf 55 = .ok (.iload 4, 2) := by decide +kernel
theorem dX5_reachOf_57 : decode cX5_reachOf 57 = .ok (.iconst 1, 1) := by decide +kernel
theorem dX5_reachOf_58 : decode cX5_reachOf 58 = .ok (.iload 6, 2) := by decide +kernel
theorem dX5_reachOf_60 : decode cX5_reachOf 60 = .ok (.ishl, 1) := by decide +kernel
theorem dX5_reachOf_61 : decode cX5_reachOf 61 = .ok (.ior, 1) := by decide +kernel
theorem dX5_reachOf_62 : decode cX5_reachOf 62 = .ok (.istore 4, 2) := by decide +kernel
theorem dX5_reachOf_64 : decode cX5_reachOf 64 = .ok (.iload 6, 2) := by decide +kernel
theorem dX5_reachOf_66 : decode cX5_reachOf 66 = .ok (.iload 5, 2) := by decide +kernel
theorem dX5_reachOf_68 : decode cX5_reachOf 68 = .ok (.iadd, 1) := by decide +kernel
theorem dX5_reachOf_69 : decode cX5_reachOf 69 = .ok (.istore 6, 2) := by decide +kernel
theorem dX5_reachOf_71 : decode cX5_reachOf 71 = .ok (.goto (-35), 3) := by decide +kernel
theorem dX5_reachOf_74 : decode cX5_reachOf 74 = .ok (.iinc 5 2, 3) := by decide +kernel
theorem dX5_reachOf_77 : decode cX5_reachOf 77 = .ok (.goto (-58), 3) := by decide +kernel
theorem dX5_reachOf_80 : decode cX5_reachOf 80 = .ok (.iload 4, 2) := by decide +kernel
theorem dX5_reachOf_82 : decode cX5_reachOf 82 = .ok (.ireturn, 1) := by decide +kernel
theorem dX5_reach_0 : decode cX5_reach 0 = .ok (.aload_n 0, 1) := by decide +kernel
theorem dX5_reach_1 : decode cX5_reach 1 = .ok (.iload_n 1, 1) := by decide +kernel
theorem dX5_reach_2 : decode cX5_reach 2 = .ok (.invokevirtual 131, 3) := by decide +kernel
theorem dX5_reach_5 : decode cX5_reach 5 = .ok (.ifCond .eq 19, 3) := by decide +kernel
theorem dX5_reach_8 : decode cX5_reach 8 = .ok (.iload_n 2, 1) := by decide +kernel
theorem dX5_reach_9 : decode cX5_reach 9 = .ok (.invokestatic 91, 3) := by decide +kernel
theorem dX5_reach_12 : decode cX5_reach 12 = .ok (.ifCond .eq 12, 3) := by decide +kernel
theorem dX5_reach_15 : decode cX5_reach 15 = .ok (.aload_n 0, 1) := by decide +kernel
theorem dX5_reach_16 : decode cX5_reach 16 = .ok (.iload_n 1, 1) := by decide +kernel
theorem dX5_reach_17 : decode cX5_reach 17 = .ok (.iload_n 2, 1) := by decide +kernel
theorem dX5_reach_18 : decode cX5_reach 18 = .ok (.invokevirtual 141, 3) := by decide +kernel
theorem dX5_reach_21 : decode cX5_reach 21 = .ok (.goto 9, 3) := by decide +kernel
theorem dX5_reach_24 : decode cX5_reach 24 = .ok (.aload_n 0, 1) := by decide +kernel
theorem dX5_reach_25 : decode cX5_reach 25 = .ok (.ldc 60, 2) := by decide +kernel
theorem dX5_reach_27 : decode cX5_reach 27 = .ok (.invokevirtual 66, 3) := by decide +kernel
theorem dX5_reach_30 : decode cX5_reach 30 = .ok (.ireturn, 1) := by decide +kernel
theorem dX5_goes_0 : decode cX5_goes 0 = .ok (.aload_n 0, 1) := by decide +kernel
theorem dX5_goes_1 : decode cX5_goes 1 = .ok (.iload_n 1, 1) := by decide +kernel
theorem dX5_goes_2 : decode cX5_goes 2 = .ok (.iconst 3, 1) := by decide +kernel
theorem dX5_goes_3 : decode cX5_goes 3 = .ok (.invokevirtual 116, 3) := by decide +kernel
theorem dX5_goes_6 : decode cX5_goes 6 = .ok (.istore_n 3, 1) := by decide +kernel
theorem dX5_goes_7 : decode cX5_goes 7 = .ok (.aload_n 0, 1) := by decide +kernel
theorem dX5_goes_8 : decode cX5_goes 8 = .ok (.iload_n 1, 1) := by decide +kernel
theorem dX5_goes_9 : decode cX5_goes 9 = .ok (.iconst 1, 1) := by decide +kernel
theorem dX5_goes_10 : decode cX5_goes 10 = .ok (.invokevirtual 116, 3) := by decide +kernel
theorem dX5_goes_13 : decode cX5_goes 13 = .ok (.istore 4, 2) := by decide +kernel
theorem dX5_goes_15 : decode cX5_goes 15 = .ok (.iload_n 3, 1) := by decide +kernel
theorem dX5_goes_16 : decode cX5_goes 16 = .ok (.iload 4, 2) := by decide +kernel
theorem dX5_goes_18 : decode cX5_goes 18 = .ok (.if_icmp .le 7, 3) := by decide +kernel
theorem dX5_goes_21 : decode cX5_goes 21 = .ok (.iconst 1, 1) := by decide +kernel
theorem dX5_goes_22 : decode cX5_goes 22 = .ok (.goto 4, 3) := by decide +kernel
theorem dX5_goes_25 : decode cX5_goes 25 = .ok (.iconst (-1), 1) := by decide +kernel
theorem dX5_goes_26 : decode cX5_goes 26 = .ok (.istore 5, 2) := by decide +kernel
theorem dX5_goes_28 : decode cX5_goes 28 = .ok (.aload_n 0, 1) := by decide +kernel
theorem dX5_goes_29 : decode cX5_goes 29 = .ok (.iload_n 1, 1) := by decide +kernel
theorem dX5_goes_30 : decode cX5_goes 30 = .ok (.invokevirtual 119, 3) := by decide +kernel
theorem dX5_goes_33 : decode cX5_goes 33 = .ok (.istore 6, 2) := by decide +kernel
theorem dX5_goes_35 : decode cX5_goes 35 = .ok (.iconst 0, 1) := by decide +kernel
theorem dX5_goes_36 : decode cX5_goes 36 = .ok (.istore 7, 2) := by decide +kernel
theorem dX5_goes_38 : decode cX5_goes 38 = .ok (.iload 7, 2) := by decide +kernel
theorem dX5_goes_40 : decode cX5_goes 40 = .ok (.aload_n 0, 1) := by decide +kernel
theorem dX5_goes_41 : decode cX5_goes 41 = .ok (.iload_n 1, 1) := by decide +kernel
theorem dX5_goes_42 : decode cX5_goes 42 = .ok (.invokevirtual 122, 3) := by decide +kernel
theorem dX5_goes_45 : decode cX5_goes 45 = .ok (.if_icmp .ge 37, 3) := by decide +kernel
theorem dX5_goes_48 : decode cX5_goes 48 = .ok (.iload 4, 2) := by decide +kernel
theorem dX5_goes_50 : decode cX5_goes 50 = .ok (.iload_n 3, 1) := by decide +kernel
theorem dX5_goes_51 : decode cX5_goes 51 = .ok (.if_icmp .eq 31, 3) := by decide +kernel
theorem dX5_goes_54 : decode cX5_goes 54 = .ok (.aload_n 0, 1) := by decide +kernel
theorem dX5_goes_55 : decode cX5_goes 55 = .ok (.iload 4, 2) := by decide +kernel
theorem dX5_goes_57 : decode cX5_goes 57 = .ok (.iload 5, 2) := by decide +kernel
theorem dX5_goes_59 : decode cX5_goes 59 = .ok (.iadd, 1) := by decide +kernel
theorem dX5_goes_60 : decode cX5_goes 60 = .ok (.iload_n 2, 1) := by decide +kernel
theorem dX5_goes_61 : decode cX5_goes 61 = .ok (.invokevirtual 103, 3) := by decide +kernel
theorem dX5_goes_64 : decode cX5_goes 64 = .ok (.iload 6, 2) := by decide +kernel
theorem dX5_goes_66 : decode cX5_goes 66 = .ok (.if_icmp .lt 16, 3) := by decide +kernel
theorem dX5_goes_69 : decode cX5_goes 69 = .ok (.iload 4, 2) := by decide +kernel
theorem dX5_goes_71 : decode cX5_goes 71 = .ok (.iload 5, 2) := by decide +kernel
theorem dX5_goes_73 : decode cX5_goes 73 = .ok (.iadd, 1) := by decide +kernel
theorem dX5_goes_74 : decode cX5_goes 74 = .ok (.istore 4, 2) := by decide +kernel
theorem dX5_goes_76 : decode cX5_goes 76 = .ok (.iinc 7 1, 3) := by decide +kernel
theorem dX5_goes_79 : decode cX5_goes 79 = .ok (.goto (-41), 3) := by decide +kernel
theorem dX5_goes_82 : decode cX5_goes 82 = .ok (.aload_n 0, 1) := by decide +kernel
theorem dX5_goes_83 : decode cX5_goes 83 = .ok (.getfield 9, 3) := by decide +kernel
theorem dX5_goes_86 : decode cX5_goes 86 = .ok (.iload_n 1, 1) := by decide +kernel
theorem dX5_goes_87 : decode cX5_goes 87 = .ok (.iconst 1, 1) := by decide +kernel
theorem dX5_goes_88 : decode cX5_goes 88 = .ok (.invokestatic 106, 3) := by decide +kernel
theorem dX5_goes_91 : decode cX5_goes 91 = .ok (.iload 4, 2) := by decide +kernel
theorem dX5_goes_93 : decode cX5_goes 93 = .ok (.iastore, 1) := by decide +kernel
theorem dX5_goes_94 : decode cX5_goes 94 = .ok (.aload_n 0, 1) := by decide +kernel
theorem dX5_goes_95 : decode cX5_goes 95 = .ok (.getfield 9, 3) := by decide +kernel
theorem dX5_goes_98 : decode cX5_goes 98 = .ok (.iload_n 1, 1) := by decide +kernel
theorem dX5_goes_99 : decode cX5_goes 99 = .ok (.iconst 4, 1) := by decide +kernel
theorem dX5_goes_100 : decode cX5_goes 100 = .ok (.invokestatic 106, 3) := by decide +kernel
theorem dX5_goes_103 : decode cX5_goes 103 = .ok (.iload 7, 2) := by decide +kernel
theorem dX5_goes_105 : decode cX5_goes 105 = .ok (.ifCond .ne 20, 3) := by decide +kernel
theorem dX5_goes_108 : decode cX5_goes 108 = .ok (.sipush 9999, 3) := by decide +kernel
theorem dX5_goes_111 : decode cX5_goes 111 = .ok (.aload_n 0, 1) := by decide +kernel
theorem dX5_goes_112 : decode cX5_goes 112 = .ok (.iload_n 1, 1) := by decide +kernel
theorem dX5_goes_113 : decode cX5_goes 113 = .ok (.iconst 4, 1) := by decide +kernel
theorem dX5_goes_114 : decode cX5_goes 114 = .ok (.invokevirtual 116, 3) := by decide +kernel
theorem dX5_goes_117 : decode cX5_goes 117 = .ok (.iconst 1, 1) := by decide +kernel
theorem dX5_goes_118 : decode cX5_goes 118 = .ok (.iadd, 1) := by decide +kernel
theorem dX5_goes_119 : decode cX5_goes 119 = .ok (.invokestatic 144, 3) := by decide +kernel
theorem dX5_goes_122 : decode cX5_goes 122 = .ok (.goto 4, 3) := by decide +kernel
theorem dX5_goes_125 : decode cX5_goes 125 = .ok (.iconst 0, 1) := by decide +kernel
theorem dX5_goes_126 : decode cX5_goes 126 = .ok (.iastore, 1) := by decide +kernel
theorem dX5_goes_127 : decode cX5_goes 127 = .ok (.return_, 1) := by decide +kernel
theorem dX5_isIn_0 : decode cX5_isIn 0 = .ok (.aload_n 0, 1) := by decide +kernel
theorem dX5_isIn_1 : decode cX5_isIn 1 = .ok (.iload_n 1, 1) := by decide +kernel
theorem dX5_isIn_2 : decode cX5_isIn 2 = .ok (.iconst 5, 1) := by decide +kernel
theorem dX5_isIn_3 : decode cX5_isIn 3 = .ok (.invokevirtual 116, 3) := by decide +kernel
theorem dX5_isIn_6 : decode cX5_isIn 6 = .ok (.ifCond .ne 7, 3) := by decide +kernel
theorem dX5_isIn_9 : decode cX5_isIn 9 = .ok (.iconst 1, 1) := by decide +kernel
theorem dX5_isIn_10 : decode cX5_isIn 10 = .ok (.goto 4, 3) := by decide +kernel
theorem dX5_isIn_13 : decode cX5_isIn 13 = .ok (.iconst 0, 1) := by decide +kernel
theorem dX5_isIn_14 : decode cX5_isIn 14 = .ok (.ireturn, 1) := by decide +kernel
theorem dX5_strains_0 : decode cX5_strains 0 = .ok (.aload_n 0, 1) := by decide +kernel
theorem dX5_strains_1 : decode cX5_strains 1 = .ok (.getfield 9, 3) := by decide +kernel
theorem dX5_strains_4 : decode cX5_strains 4 = .ok (.iconst 4, 1) := by decide +kernel
theorem dX5_strains_5 : decode cX5_strains 5 = .ok (.iaload, 1) := by decide +kernel
theorem dX5_strains_6 : decode cX5_strains 6 = .ok (.bipush 36, 2) := by decide +kernel
theorem dX5_strains_8 : decode cX5_strains 8 = .ok (.iadd, 1) := by decide +kernel
theorem dX5_strains_9 : decode cX5_strains 9 = .ok (.iload_n 1, 1) := by decide +kernel
theorem dX5_strains_10 : decode cX5_strains 10 = .ok (.isub, 1) := by decide +kernel
theorem dX5_strains_11 : decode cX5_strains 11 = .ok (.istore_n 2, 1) := by decide +kernel
theorem dX5_strains_12 : decode cX5_strains 12 = .ok (.iconst 0, 1) := by decide +kernel
theorem dX5_strains_13 : decode cX5_strains 13 = .ok (.istore_n 3, 1) := by decide +kernel
theorem dX5_strains_14 : decode cX5_strains 14 = .ok (.iload_n 3, 1) := by decide +kernel
theorem dX5_strains_15 : decode cX5_strains 15 = .ok (.aload_n 0, 1) := by decide +kernel
theorem dX5_strains_16 : decode cX5_strains 16 = .ok (.getfield 9, 3) := by decide +kernel
theorem dX5_strains_19 : decode cX5_strains 19 = .ok (.iconst 1, 1) := by decide +kernel
theorem dX5_strains_20 : decode cX5_strains 20 = .ok (.iaload, 1) := by decide +kernel
theorem dX5_strains_21 : decode cX5_strains 21 = .ok (.if_icmp .ge 58, 3) := by decide +kernel
theorem dX5_strains_24 : decode cX5_strains 24 = .ok (.iload_n 2, 1) := by decide +kernel
theorem dX5_strains_25 : decode cX5_strains 25 = .ok (.aload_n 0, 1) := by decide +kernel
theorem dX5_strains_26 : decode cX5_strains 26 = .ok (.iload_n 3, 1) := by decide +kernel
theorem dX5_strains_27 : decode cX5_strains 27 = .ok (.invokevirtual 147, 3) := by decide +kernel
theorem dX5_strains_30 : decode cX5_strains 30 = .ok (.ifCond .eq 20, 3) := by decide +kernel
theorem dX5_strains_33 : decode cX5_strains 33 = .ok (.aload_n 0, 1) := by decide +kernel
theorem dX5_strains_34 : decode cX5_strains 34 = .ok (.iload_n 3, 1) := by decide +kernel
theorem dX5_strains_35 : decode cX5_strains 35 = .ok (.iconst 1, 1) := by decide +kernel
theorem dX5_strains_36 : decode cX5_strains 36 = .ok (.invokevirtual 116, 3) := by decide +kernel
theorem dX5_strains_39 : decode cX5_strains 39 = .ok (.ifCond .ne 11, 3) := by decide +kernel
theorem dX5_strains_42 : decode cX5_strains 42 = .ok (.aload_n 0, 1) := by decide +kernel
theorem dX5_strains_43 : decode cX5_strains 43 = .ok (.iload_n 3, 1) := by decide +kernel
theorem dX5_strains_44 : decode cX5_strains 44 = .ok (.invokevirtual 125, 3) := by decide +kernel
theorem dX5_strains_47 : decode cX5_strains 47 = .ok (.goto 4, 3) := by decide +kernel
theorem dX5_strains_50 : decode cX5_strains 50 = .ok (.iconst 0, 1) := by decide +kernel
theorem dX5_strains_51 : decode cX5_strains 51 = .ok (.iadd, 1) := by decide +kernel
theorem dX5_strains_52 : decode cX5_strains 52 = .ok (.istore_n 2, 1) := by decide +kernel
theorem dX5_strains_53 : decode cX5_strains 53 = .ok (.iload_n 2, 1) := by decide +kernel
theorem dX5_strains_54 : decode cX5_strains 54 = .ok (.aload_n 0, 1) := by decide +kernel
theorem dX5_strains_55 : decode cX5_strains 55 = .ok (.iload_n 3, 1) := by decide +kernel
theorem dX5_strains_56 : decode cX5_strains 56 = .ok (.invokevirtual 147, 3) := by decide +kernel
theorem dX5_strains_59 : decode cX5_strains 59 = .ok (.ifCond .eq 11, 3) := by decide +kernel
theorem dX5_strains_62 : decode cX5_strains 62 = .ok (.aload_n 0, 1) := by decide +kernel
theorem dX5_strains_63 : decode cX5_strains 63 = .ok (.iload_n 3, 1) := by decide +kernel
theorem dX5_strains_64 : decode cX5_strains 64 = .ok (.invokevirtual 128, 3) := by decide +kernel
theorem dX5_strains_67 : decode cX5_strains 67 = .ok (.goto 4, 3) := by decide +kernel
theorem dX5_strains_70 : decode cX5_strains 70 = .ok (.iconst 0, 1) := by decide +kernel
theorem dX5_strains_71 : decode cX5_strains 71 = .ok (.isub, 1) := by decide +kernel
theorem dX5_strains_72 : decode cX5_strains 72 = .ok (.istore_n 2, 1) := by decide +kernel
theorem dX5_strains_73 : decode cX5_strains 73 = .ok (.iinc 3 1, 3) := by decide +kernel
theorem dX5_strains_76 : decode cX5_strains 76 = .ok (.goto (-62), 3) := by decide +kernel
theorem dX5_strains_79 : decode cX5_strains 79 = .ok (.aload_n 0, 1) := by decide +kernel
theorem dX5_strains_80 : decode cX5_strains 80 = .ok (.getfield 9, 3) := by decide +kernel
theorem dX5_strains_83 : decode cX5_strains 83 = .ok (.iconst 4, 1) := by decide +kernel
theorem dX5_strains_84 : decode cX5_strains 84 = .ok (.iconst 0, 1) := by decide +kernel
theorem dX5_strains_85 : decode cX5_strains 85 = .ok (.sipush 9999, 3) := by decide +kernel
theorem dX5_strains_88 : decode cX5_strains 88 = .ok (.iload_n 2, 1) := by decide +kernel
theorem dX5_strains_89 : decode cX5_strains 89 = .ok (.invokestatic 144, 3) := by decide +kernel
theorem dX5_strains_92 : decode cX5_strains 92 = .ok (.invokestatic 98, 3) := by decide +kernel
theorem dX5_strains_95 : decode cX5_strains 95 = .ok (.iastore, 1) := by decide +kernel
theorem dX5_strains_96 : decode cX5_strains 96 = .ok (.aload_n 0, 1) := by decide +kernel
theorem dX5_strains_97 : decode cX5_strains 97 = .ok (.getfield 9, 3) := by decide +kernel
theorem dX5_strains_100 : decode cX5_strains 100 = .ok (.iconst 4, 1) := by decide +kernel
theorem dX5_strains_101 : decode cX5_strains 101 = .ok (.iaload, 1) := by decide +kernel
theorem dX5_strains_102 : decode cX5_strains 102 = .ok (.aload_n 0, 1) := by decide +kernel
theorem dX5_strains_103 : decode cX5_strains 103 = .ok (.getfield 9, 3) := by decide +kernel
theorem dX5_strains_106 : decode cX5_strains 106 = .ok (.iconst 3, 1) := by decide +kernel
theorem dX5_strains_107 : decode cX5_strains 107 = .ok (.iaload, 1) := by decide +kernel
theorem dX5_strains_108 : decode cX5_strains 108 = .ok (.if_icmp .le 10, 3) := by decide +kernel
theorem dX5_strains_111 : decode cX5_strains 111 = .ok (.aload_n 0, 1) := by decide +kernel
end
section
theorem dX5_strains_112 : decode cX5_strains 112 = .ok (.getfield 9, 3) := by decide +kernel
theorem dX5_strains_115 : decode cX5_strains 115 = .ok (.iconst 5, 1) := by decide +kernel
theorem dX5_strains_116 : decode cX5_strains 116 = .ok (.iconst 1, 1) := by decide +kernel
theorem dX5_strains_117 : decode cX5_strains 117 = .ok (.iastore, 1) := by decide +kernel
theorem dX5_strains_118 : decode cX5_strains 118 = .ok (.return_, 1) := by decide +kernel
theorem dX5_hour_0 : decode cX5_hour 0 = .ok (.aload_n 0, 1) := by decide +kernel
theorem dX5_hour_1 : decode cX5_hour 1 = .ok (.invokevirtual 150, 3) := by decide +kernel
theorem dX5_hour_4 : decode cX5_hour 4 = .ok (.istore_n 1, 1) := by decide +kernel
theorem dX5_hour_5 : decode cX5_hour 5 = .ok (.iconst 0, 1) := by decide +kernel
theorem dX5_hour_6 : decode cX5_hour 6 = .ok (.istore_n 2, 1) := by decide +kernel
theorem dX5_hour_7 : decode cX5_hour 7 = .ok (.iload_n 2, 1) := by decide +kernel
theorem dX5_hour_8 : decode cX5_hour 8 = .ok (.aload_n 0, 1) := by decide +kernel
theorem dX5_hour_9 : decode cX5_hour 9 = .ok (.getfield 9, 3) := by decide +kernel
theorem dX5_hour_12 : decode cX5_hour 12 = .ok (.iconst 1, 1) := by decide +kernel
theorem dX5_hour_13 : decode cX5_hour 13 = .ok (.iaload, 1) := by decide +kernel
theorem dX5_hour_14 : decode cX5_hour 14 = .ok (.if_icmp .ge 38, 3) := by decide +kernel
theorem dX5_hour_17 : decode cX5_hour 17 = .ok (.aload_n 0, 1) := by decide +kernel
theorem dX5_hour_18 : decode cX5_hour 18 = .ok (.iload_n 2, 1) := by decide +kernel
theorem dX5_hour_19 : decode cX5_hour 19 = .ok (.invokevirtual 147, 3) := by decide +kernel
theorem dX5_hour_22 : decode cX5_hour 22 = .ok (.ifCond .eq 24, 3) := by decide +kernel
theorem dX5_hour_25 : decode cX5_hour 25 = .ok (.aload_n 0, 1) := by decide +kernel
theorem dX5_hour_26 : decode cX5_hour 26 = .ok (.iload_n 2, 1) := by decide +kernel
theorem dX5_hour_27 : decode cX5_hour 27 = .ok (.iconst 1, 1) := by decide +kernel
theorem dX5_hour_28 : decode cX5_hour 28 = .ok (.invokevirtual 116, 3) := by decide +kernel
theorem dX5_hour_31 : decode cX5_hour 31 = .ok (.aload_n 0, 1) := by decide +kernel
theorem dX5_hour_32 : decode cX5_hour 32 = .ok (.iload_n 2, 1) := by decide +kernel
theorem dX5_hour_33 : decode cX5_hour 33 = .ok (.iconst 3, 1) := by decide +kernel
theorem dX5_hour_34 : decode cX5_hour 34 = .ok (.invokevirtual 116, 3) := by decide +kernel
theorem dX5_hour_37 : decode cX5_hour 37 = .ok (.if_icmp .eq 9, 3) := by decide +kernel
theorem dX5_hour_40 : decode cX5_hour 40 = .ok (.aload_n 0, 1) := by decide +kernel
theorem dX5_hour_41 : decode cX5_hour 41 = .ok (.iload_n 2, 1) := by decide +kernel
theorem dX5_hour_42 : decode cX5_hour 42 = .ok (.iload_n 1, 1) := by decide +kernel
theorem dX5_hour_43 : decode cX5_hour 43 = .ok (.invokevirtual 153, 3) := by decide +kernel
theorem dX5_hour_46 : decode cX5_hour 46 = .ok (.iinc 2 1, 3) := by decide +kernel
theorem dX5_hour_49 : decode cX5_hour 49 = .ok (.goto (-42), 3) := by decide +kernel
theorem dX5_hour_52 : decode cX5_hour 52 = .ok (.aload_n 0, 1) := by decide +kernel
theorem dX5_hour_53 : decode cX5_hour 53 = .ok (.getfield 9, 3) := by decide +kernel
theorem dX5_hour_56 : decode cX5_hour 56 = .ok (.iconst 5, 1) := by decide +kernel
theorem dX5_hour_57 : decode cX5_hour 57 = .ok (.iaload, 1) := by decide +kernel
theorem dX5_hour_58 : decode cX5_hour 58 = .ok (.ifCond .ne 8, 3) := by decide +kernel
theorem dX5_hour_61 : decode cX5_hour 61 = .ok (.aload_n 0, 1) := by decide +kernel
theorem dX5_hour_62 : decode cX5_hour 62 = .ok (.iload_n 1, 1) := by decide +kernel
theorem dX5_hour_63 : decode cX5_hour 63 = .ok (.invokevirtual 157, 3) := by decide +kernel
theorem dX5_hour_66 : decode cX5_hour 66 = .ok (.aload_n 0, 1) := by decide +kernel
theorem dX5_hour_67 : decode cX5_hour 67 = .ok (.getfield 9, 3) := by decide +kernel
theorem dX5_hour_70 : decode cX5_hour 70 = .ok (.iconst 0, 1) := by decide +kernel
theorem dX5_hour_71 : decode cX5_hour 71 = .ok (.ldc 161, 2) := by decide +kernel
theorem dX5_hour_73 : decode cX5_hour 73 = .ok (.aload_n 0, 1) := by decide +kernel
theorem dX5_hour_74 : decode cX5_hour 74 = .ok (.getfield 9, 3) := by decide +kernel
theorem dX5_hour_77 : decode cX5_hour 77 = .ok (.iconst 0, 1) := by decide +kernel
theorem dX5_hour_78 : decode cX5_hour 78 = .ok (.iaload, 1) := by decide +kernel
theorem dX5_hour_79 : decode cX5_hour 79 = .ok (.iconst 1, 1) := by decide +kernel
theorem dX5_hour_80 : decode cX5_hour 80 = .ok (.iadd, 1) := by decide +kernel
theorem dX5_hour_81 : decode cX5_hour 81 = .ok (.invokestatic 144, 3) := by decide +kernel
theorem dX5_hour_84 : decode cX5_hour 84 = .ok (.iastore, 1) := by decide +kernel
theorem dX5_hour_85 : decode cX5_hour 85 = .ok (.return_, 1) := by decide +kernel
theorem dX5_hoursGo_0 : decode cX5_hoursGo 0 = .ok (.iconst 0, 1) := by decide +kernel
theorem dX5_hoursGo_1 : decode cX5_hoursGo 1 = .ok (.istore_n 2, 1) := by decide +kernel
theorem dX5_hoursGo_2 : decode cX5_hoursGo 2 = .ok (.iload_n 2, 1) := by decide +kernel
theorem dX5_hoursGo_3 : decode cX5_hoursGo 3 = .ok (.iload_n 1, 1) := by decide +kernel
theorem dX5_hoursGo_4 : decode cX5_hoursGo 4 = .ok (.if_icmp .ge 13, 3) := by decide +kernel
theorem dX5_hoursGo_7 : decode cX5_hoursGo 7 = .ok (.aload_n 0, 1) := by decide +kernel
theorem dX5_hoursGo_8 : decode cX5_hoursGo 8 = .ok (.invokevirtual 162, 3) := by decide +kernel
theorem dX5_hoursGo_11 : decode cX5_hoursGo 11 = .ok (.iinc 2 1, 3) := by decide +kernel
theorem dX5_hoursGo_14 : decode cX5_hoursGo 14 = .ok (.goto (-12), 3) := by decide +kernel
theorem dX5_hoursGo_17 : decode cX5_hoursGo 17 = .ok (.return_, 1) := by decide +kernel
theorem dX5_go_0 : decode cX5_go 0 = .ok (.iload_n 1, 1) := by decide +kernel
theorem dX5_go_1 : decode cX5_go 1 = .ok (.iconst 1, 1) := by decide +kernel
theorem dX5_go_2 : decode cX5_go 2 = .ok (.bipush 60, 2) := by decide +kernel
theorem dX5_go_4 : decode cX5_go 4 = .ok (.invokestatic 70, 3) := by decide +kernel
theorem dX5_go_7 : decode cX5_go 7 = .ok (.ifCond .ne 10, 3) := by decide +kernel
theorem dX5_go_10 : decode cX5_go 10 = .ok (.aload_n 0, 1) := by decide +kernel
theorem dX5_go_11 : decode cX5_go 11 = .ok (.ldc 60, 2) := by decide +kernel
theorem dX5_go_13 : decode cX5_go 13 = .ok (.invokevirtual 66, 3) := by decide +kernel
theorem dX5_go_16 : decode cX5_go 16 = .ok (.ireturn, 1) := by decide +kernel
theorem dX5_go_17 : decode cX5_go 17 = .ok (.aload_n 0, 1) := by decide +kernel
theorem dX5_go_18 : decode cX5_go 18 = .ok (.getfield 9, 3) := by decide +kernel
theorem dX5_go_21 : decode cX5_go 21 = .ok (.iconst 0, 1) := by decide +kernel
theorem dX5_go_22 : decode cX5_go 22 = .ok (.iaload, 1) := by decide +kernel
theorem dX5_go_23 : decode cX5_go 23 = .ok (.iload_n 1, 1) := by decide +kernel
theorem dX5_go_24 : decode cX5_go 24 = .ok (.iadd, 1) := by decide +kernel
theorem dX5_go_25 : decode cX5_go 25 = .ok (.ldc 161, 2) := by decide +kernel
theorem dX5_go_27 : decode cX5_go 27 = .ok (.if_icmp .le 10, 3) := by decide +kernel
theorem dX5_go_30 : decode cX5_go 30 = .ok (.aload_n 0, 1) := by decide +kernel
theorem dX5_go_31 : decode cX5_go 31 = .ok (.ldc 165, 2) := by decide +kernel
theorem dX5_go_33 : decode cX5_go 33 = .ok (.invokevirtual 66, 3) := by decide +kernel
theorem dX5_go_36 : decode cX5_go 36 = .ok (.ireturn, 1) := by decide +kernel
theorem dX5_go_37 : decode cX5_go 37 = .ok (.aload_n 0, 1) := by decide +kernel
theorem dX5_go_38 : decode cX5_go 38 = .ok (.iload_n 1, 1) := by decide +kernel
theorem dX5_go_39 : decode cX5_go 39 = .ok (.invokevirtual 166, 3) := by decide +kernel
theorem dX5_go_42 : decode cX5_go 42 = .ok (.aload_n 0, 1) := by decide +kernel
theorem dX5_go_43 : decode cX5_go 43 = .ok (.getfield 9, 3) := by decide +kernel
theorem dX5_go_46 : decode cX5_go 46 = .ok (.iconst 4, 1) := by decide +kernel
theorem dX5_go_47 : decode cX5_go 47 = .ok (.iaload, 1) := by decide +kernel
theorem dX5_go_48 : decode cX5_go 48 = .ok (.ireturn, 1) := by decide +kernel
theorem dX5_stuckOnes_0 : decode cX5_stuckOnes 0 = .ok (.iconst 0, 1) := by decide +kernel
theorem dX5_stuckOnes_1 : decode cX5_stuckOnes 1 = .ok (.istore_n 1, 1) := by decide +kernel
theorem dX5_stuckOnes_2 : decode cX5_stuckOnes 2 = .ok (.iconst 0, 1) := by decide +kernel
theorem dX5_stuckOnes_3 : decode cX5_stuckOnes 3 = .ok (.istore_n 2, 1) := by decide +kernel
theorem dX5_stuckOnes_4 : decode cX5_stuckOnes 4 = .ok (.iload_n 2, 1) := by decide +kernel
theorem dX5_stuckOnes_5 : decode cX5_stuckOnes 5 = .ok (.aload_n 0, 1) := by decide +kernel
theorem dX5_stuckOnes_6 : decode cX5_stuckOnes 6 = .ok (.getfield 9, 3) := by decide +kernel
theorem dX5_stuckOnes_9 : decode cX5_stuckOnes 9 = .ok (.iconst 1, 1) := by decide +kernel
theorem dX5_stuckOnes_10 : decode cX5_stuckOnes 10 = .ok (.iaload, 1) := by decide +kernel
theorem dX5_stuckOnes_11 : decode cX5_stuckOnes 11 = .ok (.if_icmp .ge 28, 3) := by decide +kernel
theorem dX5_stuckOnes_14 : decode cX5_stuckOnes 14 = .ok (.iload_n 1, 1) := by decide +kernel
theorem dX5_stuckOnes_15 : decode cX5_stuckOnes 15 = .ok (.aload_n 0, 1) := by decide +kernel
theorem dX5_stuckOnes_16 : decode cX5_stuckOnes 16 = .ok (.iload_n 2, 1) := by decide +kernel
theorem dX5_stuckOnes_17 : decode cX5_stuckOnes 17 = .ok (.iconst 4, 1) := by decide +kernel
theorem dX5_stuckOnes_18 : decode cX5_stuckOnes 18 = .ok (.invokevirtual 116, 3) := by decide +kernel
theorem dX5_stuckOnes_21 : decode cX5_stuckOnes 21 = .ok (.ifCond .le 9, 3) := by decide +kernel
theorem dX5_stuckOnes_24 : decode cX5_stuckOnes 24 = .ok (.iconst 1, 1) := by decide +kernel
theorem dX5_stuckOnes_25 : decode cX5_stuckOnes 25 = .ok (.iload_n 2, 1) := by decide +kernel
theorem dX5_stuckOnes_26 : decode cX5_stuckOnes 26 = .ok (.ishl, 1) := by decide +kernel
theorem dX5_stuckOnes_27 : decode cX5_stuckOnes 27 = .ok (.goto 4, 3) := by decide +kernel
theorem dX5_stuckOnes_30 : decode cX5_stuckOnes 30 = .ok (.iconst 0, 1) := by decide +kernel
theorem dX5_stuckOnes_31 : decode cX5_stuckOnes 31 = .ok (.ior, 1) := by decide +kernel
theorem dX5_stuckOnes_32 : decode cX5_stuckOnes 32 = .ok (.istore_n 1, 1) := by decide +kernel
theorem dX5_stuckOnes_33 : decode cX5_stuckOnes 33 = .ok (.iinc 2 1, 3) := by decide +kernel
theorem dX5_stuckOnes_36 : decode cX5_stuckOnes 36 = .ok (.goto (-32), 3) := by decide +kernel
theorem dX5_stuckOnes_39 : decode cX5_stuckOnes 39 = .ok (.iload_n 1, 1) := by decide +kernel
theorem dX5_stuckOnes_40 : decode cX5_stuckOnes 40 = .ok (.ireturn, 1) := by decide +kernel
theorem dX5_arrived_0 : decode cX5_arrived 0 = .ok (.iconst 0, 1) := by decide +kernel
theorem dX5_arrived_1 : decode cX5_arrived 1 = .ok (.istore_n 1, 1) := by decide +kernel
theorem dX5_arrived_2 : decode cX5_arrived 2 = .ok (.iconst 0, 1) := by decide +kernel
theorem dX5_arrived_3 : decode cX5_arrived 3 = .ok (.istore_n 2, 1) := by decide +kernel
theorem dX5_arrived_4 : decode cX5_arrived 4 = .ok (.iload_n 2, 1) := by decide +kernel
theorem dX5_arrived_5 : decode cX5_arrived 5 = .ok (.aload_n 0, 1) := by decide +kernel
theorem dX5_arrived_6 : decode cX5_arrived 6 = .ok (.getfield 9, 3) := by decide +kernel
theorem dX5_arrived_9 : decode cX5_arrived 9 = .ok (.iconst 1, 1) := by decide +kernel
theorem dX5_arrived_10 : decode cX5_arrived 10 = .ok (.iaload, 1) := by decide +kernel
theorem dX5_arrived_11 : decode cX5_arrived 11 = .ok (.if_icmp .ge 34, 3) := by decide +kernel
theorem dX5_arrived_14 : decode cX5_arrived 14 = .ok (.iload_n 1, 1) := by decide +kernel
theorem dX5_arrived_15 : decode cX5_arrived 15 = .ok (.aload_n 0, 1) := by decide +kernel
theorem dX5_arrived_16 : decode cX5_arrived 16 = .ok (.iload_n 2, 1) := by decide +kernel
theorem dX5_arrived_17 : decode cX5_arrived 17 = .ok (.iconst 1, 1) := by decide +kernel
theorem dX5_arrived_18 : decode cX5_arrived 18 = .ok (.invokevirtual 116, 3) := by decide +kernel
theorem dX5_arrived_21 : decode cX5_arrived 21 = .ok (.aload_n 0, 1) := by decide +kernel
theorem dX5_arrived_22 : decode cX5_arrived 22 = .ok (.iload_n 2, 1) := by decide +kernel
theorem dX5_arrived_23 : decode cX5_arrived 23 = .ok (.iconst 3, 1) := by decide +kernel
theorem dX5_arrived_24 : decode cX5_arrived 24 = .ok (.invokevirtual 116, 3) := by decide +kernel
theorem dX5_arrived_27 : decode cX5_arrived 27 = .ok (.if_icmp .ne 9, 3) := by decide +kernel
theorem dX5_arrived_30 : decode cX5_arrived 30 = .ok (.iconst 1, 1) := by decide +kernel
theorem dX5_arrived_31 : decode cX5_arrived 31 = .ok (.iload_n 2, 1) := by decide +kernel
theorem dX5_arrived_32 : decode cX5_arrived 32 = .ok (.ishl, 1) := by decide +kernel
theorem dX5_arrived_33 : decode cX5_arrived 33 = .ok (.goto 4, 3) := by decide +kernel
theorem dX5_arrived_36 : decode cX5_arrived 36 = .ok (.iconst 0, 1) := by decide +kernel
theorem dX5_arrived_37 : decode cX5_arrived 37 = .ok (.ior, 1) := by decide +kernel
theorem dX5_arrived_38 : decode cX5_arrived 38 = .ok (.istore_n 1, 1) := by decide +kernel
theorem dX5_arrived_39 : decode cX5_arrived 39 = .ok (.iinc 2 1, 3) := by decide +kernel
theorem dX5_arrived_42 : decode cX5_arrived 42 = .ok (.goto (-38), 3) := by decide +kernel
theorem dX5_arrived_45 : decode cX5_arrived 45 = .ok (.iload_n 1, 1) := by decide +kernel
theorem dX5_arrived_46 : decode cX5_arrived 46 = .ok (.ireturn, 1) := by decide +kernel
theorem dX5_inTheHall_0 : decode cX5_inTheHall 0 = .ok (.iconst 0, 1) := by decide +kernel
theorem dX5_inTheHall_1 : decode cX5_inTheHall 1 = .ok (.istore_n 1, 1) := by decide +kernel
theorem dX5_inTheHall_2 : decode cX5_inTheHall 2 = .ok (.iconst 0, 1) := by decide +kernel
theorem dX5_inTheHall_3 : decode cX5_inTheHall 3 = .ok (.istore_n 2, 1) := by decide +kernel
theorem dX5_inTheHall_4 : decode cX5_inTheHall 4 = .ok (.iload_n 2, 1) := by decide +kernel
theorem dX5_inTheHall_5 : decode cX5_inTheHall 5 = .ok (.aload_n 0, 1) := by decide +kernel
theorem dX5_inTheHall_6 : decode cX5_inTheHall 6 = .ok (.getfield 9, 3) := by decide +kernel
theorem dX5_inTheHall_9 : decode cX5_inTheHall 9 = .ok (.iconst 1, 1) := by decide +kernel
theorem dX5_inTheHall_10 : decode cX5_inTheHall 10 = .ok (.iaload, 1) := by decide +kernel
theorem dX5_inTheHall_11 : decode cX5_inTheHall 11 = .ok (.if_icmp .ge 36, 3) := by decide +kernel
theorem dX5_inTheHall_14 : decode cX5_inTheHall 14 = .ok (.iload_n 1, 1) := by decide +kernel
theorem dX5_inTheHall_15 : decode cX5_inTheHall 15 = .ok (.aload_n 0, 1) := by decide +kernel
theorem dX5_inTheHall_16 : decode cX5_inTheHall 16 = .ok (.iload_n 2, 1) := by decide +kernel
theorem dX5_inTheHall_17 : decode cX5_inTheHall 17 = .ok (.invokevirtual 147, 3) := by decide +kernel
theorem dX5_inTheHall_20 : decode cX5_inTheHall 20 = .ok (.ifCond .eq 18, 3) := by decide +kernel
theorem dX5_inTheHall_23 : decode cX5_inTheHall 23 = .ok (.aload_n 0, 1) := by decide +kernel
theorem dX5_inTheHall_24 : decode cX5_inTheHall 24 = .ok (.iload_n 2, 1) := by decide +kernel
theorem dX5_inTheHall_25 : decode cX5_inTheHall 25 = .ok (.iconst 1, 1) := by decide +kernel
theorem dX5_inTheHall_26 : decode cX5_inTheHall 26 = .ok (.invokevirtual 116, 3) := by decide +kernel
theorem dX5_inTheHall_29 : decode cX5_inTheHall 29 = .ok (.ifCond .ne 9, 3) := by decide +kernel
theorem dX5_inTheHall_32 : decode cX5_inTheHall 32 = .ok (.iconst 1, 1) := by decide +kernel
theorem dX5_inTheHall_33 : decode cX5_inTheHall 33 = .ok (.iload_n 2, 1) := by decide +kernel
theorem dX5_inTheHall_34 : decode cX5_inTheHall 34 = .ok (.ishl, 1) := by decide +kernel
theorem dX5_inTheHall_35 : decode cX5_inTheHall 35 = .ok (.goto 4, 3) := by decide +kernel
theorem dX5_inTheHall_38 : decode cX5_inTheHall 38 = .ok (.iconst 0, 1) := by decide +kernel
theorem dX5_inTheHall_39 : decode cX5_inTheHall 39 = .ok (.ior, 1) := by decide +kernel
theorem dX5_inTheHall_40 : decode cX5_inTheHall 40 = .ok (.istore_n 1, 1) := by decide +kernel
theorem dX5_inTheHall_41 : decode cX5_inTheHall 41 = .ok (.iinc 2 1, 3) := by decide +kernel
theorem dX5_inTheHall_44 : decode cX5_inTheHall 44 = .ok (.goto (-40), 3) := by decide +kernel
theorem dX5_inTheHall_47 : decode cX5_inTheHall 47 = .ok (.iload_n 1, 1) := by decide +kernel
theorem dX5_inTheHall_48 : decode cX5_inTheHall 48 = .ok (.ireturn, 1) := by decide +kernel
theorem dX5_shutCells_0 : decode cX5_shutCells 0 = .ok (.iconst 0, 1) := by decide +kernel
theorem dX5_shutCells_1 : decode cX5_shutCells 1 = .ok (.istore_n 1, 1) := by decide +kernel
theorem dX5_shutCells_2 : decode cX5_shutCells 2 = .ok (.iconst 0, 1) := by decide +kernel
theorem dX5_shutCells_3 : decode cX5_shutCells 3 = .ok (.istore_n 2, 1) := by decide +kernel
theorem dX5_shutCells_4 : decode cX5_shutCells 4 = .ok (.iload_n 2, 1) := by decide +kernel
theorem dX5_shutCells_5 : decode cX5_shutCells 5 = .ok (.bipush 16, 2) := by decide +kernel
theorem dX5_shutCells_7 : decode cX5_shutCells 7 = .ok (.if_icmp .ge 31, 3) := by decide +kernel
theorem dX5_shutCells_10 : decode cX5_shutCells 10 = .ok (.iload_n 1, 1) := by decide +kernel
theorem dX5_shutCells_11 : decode cX5_shutCells 11 = .ok (.aload_n 0, 1) := by decide +kernel
theorem dX5_shutCells_12 : decode cX5_shutCells 12 = .ok (.iload_n 2, 1) := by decide +kernel
theorem dX5_shutCells_13 : decode cX5_shutCells 13 = .ok (.aload_n 0, 1) := by decide +kernel
theorem dX5_shutCells_14 : decode cX5_shutCells 14 = .ok (.invokevirtual 150, 3) := by decide +kernel
theorem dX5_shutCells_17 : decode cX5_shutCells 17 = .ok (.invokevirtual 103, 3) := by decide +kernel
theorem dX5_shutCells_20 : decode cX5_shutCells 20 = .ok (.ifCond .ne 9, 3) := by decide +kernel
theorem dX5_shutCells_23 : decode cX5_shutCells 23 = .ok (.iconst 1, 1) := by decide +kernel
theorem dX5_shutCells_24 : decode cX5_shutCells 24 = .ok (.iload_n 2, 1) := by decide +kernel
theorem dX5_shutCells_25 : decode cX5_shutCells 25 = .ok (.ishl, 1) := by decide +kernel
theorem dX5_shutCells_26 : decode cX5_shutCells 26 = .ok (.goto 4, 3) := by decide +kernel
theorem dX5_shutCells_29 : decode cX5_shutCells 29 = .ok (.iconst 0, 1) := by decide +kernel
theorem dX5_shutCells_30 : decode cX5_shutCells 30 = .ok (.ior, 1) := by decide +kernel
theorem dX5_shutCells_31 : decode cX5_shutCells 31 = .ok (.istore_n 1, 1) := by decide +kernel
theorem dX5_shutCells_32 : decode cX5_shutCells 32 = .ok (.iinc 2 1, 3) := by decide +kernel
theorem dX5_shutCells_35 : decode cX5_shutCells 35 = .ok (.goto (-31), 3) := by decide +kernel
theorem dX5_shutCells_38 : decode cX5_shutCells 38 = .ok (.iload_n 1, 1) := by decide +kernel
theorem dX5_shutCells_39 : decode cX5_shutCells 39 = .ok (.ireturn, 1) := by decide +kernel
theorem dX5_now_0 : decode cX5_now 0 = .ok (.iload_n 1, 1) := by decide +kernel
theorem dX5_now_1 : decode cX5_now 1 = .ok (.tableswitch 93 0 7 #[47, 54, 59, 66, 73, 78, 83, 88], 47) := by decide +kernel
theorem dX5_now_48 : decode cX5_now 48 = .ok (.aload_n 0, 1) := by decide +kernel
theorem dX5_now_49 : decode cX5_now 49 = .ok (.getfield 9, 3) := by decide +kernel
theorem dX5_now_52 : decode cX5_now 52 = .ok (.iconst 0, 1) := by decide +kernel
theorem dX5_now_53 : decode cX5_now 53 = .ok (.iaload, 1) := by decide +kernel
theorem dX5_now_54 : decode cX5_now 54 = .ok (.ireturn, 1) := by decide +kernel
theorem dX5_now_55 : decode cX5_now 55 = .ok (.aload_n 0, 1) := by decide +kernel
theorem dX5_now_56 : decode cX5_now 56 = .ok (.invokevirtual 150, 3) := by decide +kernel
theorem dX5_now_59 : decode cX5_now 59 = .ok (.ireturn, 1) := by decide +kernel
theorem dX5_now_60 : decode cX5_now 60 = .ok (.aload_n 0, 1) := by decide +kernel
theorem dX5_now_61 : decode cX5_now 61 = .ok (.getfield 9, 3) := by decide +kernel
theorem dX5_now_64 : decode cX5_now 64 = .ok (.iconst 4, 1) := by decide +kernel
theorem dX5_now_65 : decode cX5_now 65 = .ok (.iaload, 1) := by decide +kernel
theorem dX5_now_66 : decode cX5_now 66 = .ok (.ireturn, 1) := by decide +kernel
theorem dX5_now_67 : decode cX5_now 67 = .ok (.aload_n 0, 1) := by decide +kernel
theorem dX5_now_68 : decode cX5_now 68 = .ok (.getfield 9, 3) := by decide +kernel
theorem dX5_now_71 : decode cX5_now 71 = .ok (.iconst 5, 1) := by decide +kernel
theorem dX5_now_72 : decode cX5_now 72 = .ok (.iaload, 1) := by decide +kernel
theorem dX5_now_73 : decode cX5_now 73 = .ok (.ireturn, 1) := by decide +kernel
theorem dX5_now_74 : decode cX5_now 74 = .ok (.aload_n 0, 1) := by decide +kernel
theorem dX5_now_75 : decode cX5_now 75 = .ok (.invokevirtual 169, 3) := by decide +kernel
theorem dX5_now_78 : decode cX5_now 78 = .ok (.ireturn, 1) := by decide +kernel
theorem dX5_now_79 : decode cX5_now 79 = .ok (.aload_n 0, 1) := by decide +kernel
theorem dX5_now_80 : decode cX5_now 80 = .ok (.invokevirtual 172, 3) := by decide +kernel
theorem dX5_now_83 : decode cX5_now 83 = .ok (.ireturn, 1) := by decide +kernel
theorem dX5_now_84 : decode cX5_now 84 = .ok (.aload_n 0, 1) := by decide +kernel
theorem dX5_now_85 : decode cX5_now 85 = .ok (.invokevirtual 175, 3) := by decide +kernel
theorem dX5_now_88 : decode cX5_now 88 = .ok (.ireturn, 1) := by decide +kernel
theorem dX5_now_89 : decode cX5_now 89 = .ok (.aload_n 0, 1) := by decide +kernel
theorem dX5_now_90 : decode cX5_now 90 = .ok (.invokevirtual 178, 3) := by decide +kernel
theorem dX5_now_93 : decode cX5_now 93 = .ok (.ireturn, 1) := by decide +kernel
theorem dX5_now_94 : decode cX5_now 94 = .ok (.aload_n 0, 1) := by decide +kernel
theorem dX5_now_95 : decode cX5_now 95 = .ok (.ldc 60, 2) := by decide +kernel
theorem dX5_now_97 : decode cX5_now 97 = .ok (.invokevirtual 66, 3) := by decide +kernel
theorem dX5_now_100 : decode cX5_now 100 = .ok (.ireturn, 1) := by decide +kernel
theorem dX5_behind_0 : decode cX5_behind 0 = .ok (.aload_n 0, 1) := by decide +kernel
theorem dX5_behind_1 : decode cX5_behind 1 = .ok (.getfield 9, 3) := by decide +kernel
theorem dX5_behind_4 : decode cX5_behind 4 = .ok (.aload_n 0, 1) := by decide +kernel
theorem dX5_behind_5 : decode cX5_behind 5 = .ok (.getfield 16, 3) := by decide +kernel
theorem dX5_behind_8 : decode cX5_behind 8 = .ok (.invokestatic 61, 3) := by decide +kernel
theorem dX5_behind_11 : decode cX5_behind 11 = .ok (.aload_n 0, 1) := by decide +kernel
theorem dX5_behind_12 : decode cX5_behind 12 = .ok (.iload_n 2, 1) := by decide +kernel
theorem dX5_behind_13 : decode cX5_behind 13 = .ok (.invokevirtual 166, 3) := by decide +kernel
theorem dX5_behind_16 : decode cX5_behind 16 = .ok (.aload_n 0, 1) := by decide +kernel
theorem dX5_behind_17 : decode cX5_behind 17 = .ok (.aload_n 0, 1) := by decide +kernel
theorem dX5_behind_18 : decode cX5_behind 18 = .ok (.getfield 9, 3) := by decide +kernel
theorem dX5_behind_21 : decode cX5_behind 21 = .ok (.iload_n 1, 1) := by decide +kernel
theorem dX5_behind_22 : decode cX5_behind 22 = .ok (.iaload, 1) := by decide +kernel
theorem dX5_behind_23 : decode cX5_behind 23 = .ok (.invokevirtual 181, 3) := by decide +kernel
theorem dX5_behind_26 : decode cX5_behind 26 = .ok (.ireturn, 1) := by decide +kernel
theorem dX5_ahead_0 : decode cX5_ahead 0 = .ok (.iload_n 2, 1) := by decide +kernel
theorem dX5_ahead_1 : decode cX5_ahead 1 = .ok (.iconst 1, 1) := by decide +kernel
theorem dX5_ahead_2 : decode cX5_ahead 2 = .ok (.if_icmp .eq 14, 3) := by decide +kernel
theorem dX5_ahead_5 : decode cX5_ahead 5 = .ok (.iload_n 2, 1) := by decide +kernel
theorem dX5_ahead_6 : decode cX5_ahead 6 = .ok (.iconst 4, 1) := by decide +kernel
theorem dX5_ahead_7 : decode cX5_ahead 7 = .ok (.if_icmp .eq 9, 3) := by decide +kernel
theorem dX5_ahead_10 : decode cX5_ahead 10 = .ok (.iload_n 2, 1) := by decide +kernel
theorem dX5_ahead_11 : decode cX5_ahead 11 = .ok (.bipush 6, 2) := by decide +kernel
theorem dX5_ahead_13 : decode cX5_ahead 13 = .ok (.if_icmp .ne 7, 3) := by decide +kernel
theorem dX5_ahead_16 : decode cX5_ahead 16 = .ok (.iconst 1, 1) := by decide +kernel
theorem dX5_ahead_17 : decode cX5_ahead 17 = .ok (.goto 4, 3) := by decide +kernel
theorem dX5_ahead_20 : decode cX5_ahead 20 = .ok (.iconst 0, 1) := by decide +kernel
theorem dX5_ahead_21 : decode cX5_ahead 21 = .ok (.istore 4, 2) := by decide +kernel
theorem dX5_ahead_23 : decode cX5_ahead 23 = .ok (.aload_n 0, 1) := by decide +kernel
theorem dX5_ahead_24 : decode cX5_ahead 24 = .ok (.iload_n 1, 1) := by decide +kernel
theorem dX5_ahead_25 : decode cX5_ahead 25 = .ok (.invokevirtual 131, 3) := by decide +kernel
theorem dX5_ahead_28 : decode cX5_ahead 28 = .ok (.ifCond .eq 18, 3) := by decide +kernel
theorem dX5_ahead_31 : decode cX5_ahead 31 = .ok (.iload 4, 2) := by decide +kernel
theorem dX5_ahead_33 : decode cX5_ahead 33 = .ok (.ifCond .eq 13, 3) := by decide +kernel
theorem dX5_ahead_36 : decode cX5_ahead 36 = .ok (.iload_n 3, 1) := by decide +kernel
theorem dX5_ahead_37 : decode cX5_ahead 37 = .ok (.iconst 0, 1) := by decide +kernel
theorem dX5_ahead_38 : decode cX5_ahead 38 = .ok (.bipush 100, 2) := by decide +kernel
theorem dX5_ahead_40 : decode cX5_ahead 40 = .ok (.invokestatic 70, 3) := by decide +kernel
theorem dX5_ahead_43 : decode cX5_ahead 43 = .ok (.ifCond .ne 10, 3) := by decide +kernel
theorem dX5_ahead_46 : decode cX5_ahead 46 = .ok (.aload_n 0, 1) := by decide +kernel
theorem dX5_ahead_47 : decode cX5_ahead 47 = .ok (.ldc 60, 2) := by decide +kernel
theorem dX5_ahead_49 : decode cX5_ahead 49 = .ok (.invokevirtual 66, 3) := by decide +kernel
theorem dX5_ahead_52 : decode cX5_ahead 52 = .ok (.ireturn, 1) := by decide +kernel
theorem dX5_ahead_53 : decode cX5_ahead 53 = .ok (.aload_n 0, 1) := by decide +kernel
theorem dX5_ahead_54 : decode cX5_ahead 54 = .ok (.getfield 9, 3) := by decide +kernel
theorem dX5_ahead_57 : decode cX5_ahead 57 = .ok (.aload_n 0, 1) := by decide +kernel
theorem dX5_ahead_58 : decode cX5_ahead 58 = .ok (.getfield 16, 3) := by decide +kernel
theorem dX5_ahead_61 : decode cX5_ahead 61 = .ok (.invokestatic 61, 3) := by decide +kernel
theorem dX5_ahead_64 : decode cX5_ahead 64 = .ok (.aload_n 0, 1) := by decide +kernel
theorem dX5_ahead_65 : decode cX5_ahead 65 = .ok (.iload_n 3, 1) := by decide +kernel
theorem dX5_ahead_66 : decode cX5_ahead 66 = .ok (.invokevirtual 166, 3) := by decide +kernel
theorem dX5_ahead_69 : decode cX5_ahead 69 = .ok (.aload_n 0, 1) := by decide +kernel
theorem dX5_ahead_70 : decode cX5_ahead 70 = .ok (.aload_n 0, 1) := by decide +kernel
theorem dX5_ahead_71 : decode cX5_ahead 71 = .ok (.iload_n 1, 1) := by decide +kernel
theorem dX5_ahead_72 : decode cX5_ahead 72 = .ok (.iload_n 2, 1) := by decide +kernel
theorem dX5_ahead_73 : decode cX5_ahead 73 = .ok (.invokevirtual 134, 3) := by decide +kernel
theorem dX5_ahead_76 : decode cX5_ahead 76 = .ok (.invokevirtual 181, 3) := by decide +kernel
theorem dX5_ahead_79 : decode cX5_ahead 79 = .ok (.ireturn, 1) := by decide +kernel
theorem dX5_strain_0 : decode cX5_strain 0 = .ok (.iload_n 1, 1) := by decide +kernel
theorem dX5_strain_1 : decode cX5_strain 1 = .ok (.iconst 0, 1) := by decide +kernel
theorem dX5_strain_2 : decode cX5_strain 2 = .ok (.bipush 100, 2) := by decide +kernel
theorem dX5_strain_4 : decode cX5_strain 4 = .ok (.invokestatic 70, 3) := by decide +kernel
theorem dX5_strain_7 : decode cX5_strain 7 = .ok (.ifCond .eq 12, 3) := by decide +kernel
theorem dX5_strain_10 : decode cX5_strain 10 = .ok (.aload_n 0, 1) := by decide +kernel
theorem dX5_strain_11 : decode cX5_strain 11 = .ok (.iconst 4, 1) := by decide +kernel
theorem dX5_strain_12 : decode cX5_strain 12 = .ok (.iload_n 1, 1) := by decide +kernel
theorem dX5_strain_13 : decode cX5_strain 13 = .ok (.invokevirtual 184, 3) := by decide +kernel
theorem dX5_strain_16 : decode cX5_strain 16 = .ok (.goto 9, 3) := by decide +kernel
theorem dX5_strain_19 : decode cX5_strain 19 = .ok (.aload_n 0, 1) := by decide +kernel
theorem dX5_strain_20 : decode cX5_strain 20 = .ok (.ldc 60, 2) := by decide +kernel
theorem dX5_strain_22 : decode cX5_strain 22 = .ok (.invokevirtual 66, 3) := by decide +kernel
theorem dX5_strain_25 : decode cX5_strain 25 = .ok (.ireturn, 1) := by decide +kernel
theorem dX5_hoursTo_0 : decode cX5_hoursTo 0 = .ok (.aload_n 0, 1) := by decide +kernel
theorem dX5_hoursTo_1 : decode cX5_hoursTo 1 = .ok (.getfield 9, 3) := by decide +kernel
theorem dX5_hoursTo_4 : decode cX5_hoursTo 4 = .ok (.aload_n 0, 1) := by decide +kernel
theorem dX5_hoursTo_5 : decode cX5_hoursTo 5 = .ok (.getfield 16, 3) := by decide +kernel
theorem dX5_hoursTo_8 : decode cX5_hoursTo 8 = .ok (.invokestatic 61, 3) := by decide +kernel
theorem dX5_hoursTo_11 : decode cX5_hoursTo 11 = .ok (.iconst 0, 1) := by decide +kernel
theorem dX5_hoursTo_12 : decode cX5_hoursTo 12 = .ok (.istore 4, 2) := by decide +kernel
theorem dX5_hoursTo_14 : decode cX5_hoursTo 14 = .ok (.iload 4, 2) := by decide +kernel
theorem dX5_hoursTo_16 : decode cX5_hoursTo 16 = .ok (.sipush 200, 3) := by decide +kernel
theorem dX5_hoursTo_19 : decode cX5_hoursTo 19 = .ok (.if_icmp .ge 27, 3) := by decide +kernel
theorem dX5_hoursTo_22 : decode cX5_hoursTo 22 = .ok (.aload_n 0, 1) := by decide +kernel
theorem dX5_hoursTo_23 : decode cX5_hoursTo 23 = .ok (.getfield 9, 3) := by decide +kernel
theorem dX5_hoursTo_26 : decode cX5_hoursTo 26 = .ok (.iload_n 1, 1) := by decide +kernel
theorem dX5_hoursTo_27 : decode cX5_hoursTo 27 = .ok (.iaload, 1) := by decide +kernel
theorem dX5_hoursTo_28 : decode cX5_hoursTo 28 = .ok (.iload_n 2, 1) := by decide +kernel
theorem dX5_hoursTo_29 : decode cX5_hoursTo 29 = .ok (.iload_n 3, 1) := by decide +kernel
theorem dX5_hoursTo_30 : decode cX5_hoursTo 30 = .ok (.invokestatic 70, 3) := by decide +kernel
theorem dX5_hoursTo_33 : decode cX5_hoursTo 33 = .ok (.ifCond .ne 13, 3) := by decide +kernel
theorem dX5_hoursTo_36 : decode cX5_hoursTo 36 = .ok (.aload_n 0, 1) := by decide +kernel
theorem dX5_hoursTo_37 : decode cX5_hoursTo 37 = .ok (.invokevirtual 162, 3) := by decide +kernel
theorem dX5_hoursTo_40 : decode cX5_hoursTo 40 = .ok (.iinc 4 1, 3) := by decide +kernel
theorem dX5_hoursTo_43 : decode cX5_hoursTo 43 = .ok (.goto (-29), 3) := by decide +kernel
theorem dX5_hoursTo_46 : decode cX5_hoursTo 46 = .ok (.aload_n 0, 1) := by decide +kernel
theorem dX5_hoursTo_47 : decode cX5_hoursTo 47 = .ok (.aload_n 0, 1) := by decide +kernel
theorem dX5_hoursTo_48 : decode cX5_hoursTo 48 = .ok (.getfield 9, 3) := by decide +kernel
theorem dX5_hoursTo_51 : decode cX5_hoursTo 51 = .ok (.iload_n 1, 1) := by decide +kernel
theorem dX5_hoursTo_52 : decode cX5_hoursTo 52 = .ok (.iaload, 1) := by decide +kernel
theorem dX5_hoursTo_53 : decode cX5_hoursTo 53 = .ok (.iload_n 2, 1) := by decide +kernel
theorem dX5_hoursTo_54 : decode cX5_hoursTo 54 = .ok (.iload_n 3, 1) := by decide +kernel
theorem dX5_hoursTo_55 : decode cX5_hoursTo 55 = .ok (.invokestatic 70, 3) := by decide +kernel
theorem dX5_hoursTo_58 : decode cX5_hoursTo 58 = .ok (.ifCond .eq 8, 3) := by decide +kernel
theorem dX5_hoursTo_61 : decode cX5_hoursTo 61 = .ok (.iload 4, 2) := by decide +kernel
theorem dX5_hoursTo_63 : decode cX5_hoursTo 63 = .ok (.goto 4, 3) := by decide +kernel
theorem dX5_hoursTo_66 : decode cX5_hoursTo 66 = .ok (.iconst (-1), 1) := by decide +kernel
theorem dX5_hoursTo_67 : decode cX5_hoursTo 67 = .ok (.invokevirtual 181, 3) := by decide +kernel
theorem dX5_hoursTo_70 : decode cX5_hoursTo 70 = .ok (.ireturn, 1) := by decide +kernel
theorem dX5_snaps_0 : decode cX5_snaps 0 = .ok (.aload_n 0, 1) := by decide +kernel
theorem dX5_snaps_1 : decode cX5_snaps 1 = .ok (.aload_n 0, 1) := by decide +kernel
theorem dX5_snaps_2 : decode cX5_snaps 2 = .ok (.iconst 5, 1) := by decide +kernel
theorem dX5_snaps_3 : decode cX5_snaps 3 = .ok (.iconst 1, 1) := by decide +kernel
theorem dX5_snaps_4 : decode cX5_snaps 4 = .ok (.iconst 1, 1) := by decide +kernel
theorem dX5_snaps_5 : decode cX5_snaps 5 = .ok (.invokevirtual 187, 3) := by decide +kernel
theorem dX5_snaps_8 : decode cX5_snaps 8 = .ok (.invokevirtual 191, 3) := by decide +kernel
theorem dX5_snaps_11 : decode cX5_snaps 11 = .ok (.ireturn, 1) := by decide +kernel
theorem dX5_comes_0 : decode cX5_comes 0 = .ok (.aload_n 0, 1) := by decide +kernel
theorem dX5_comes_1 : decode cX5_comes 1 = .ok (.iload_n 1, 1) := by decide +kernel
theorem dX5_comes_2 : decode cX5_comes 2 = .ok (.invokevirtual 131, 3) := by decide +kernel
theorem dX5_comes_5 : decode cX5_comes 5 = .ok (.ifCond .eq 28, 3) := by decide +kernel
theorem dX5_comes_8 : decode cX5_comes 8 = .ok (.iload_n 2, 1) := by decide +kernel
theorem dX5_comes_9 : decode cX5_comes 9 = .ok (.invokestatic 82, 3) := by decide +kernel
theorem dX5_comes_12 : decode cX5_comes 12 = .ok (.ifCond .eq 21, 3) := by decide +kernel
theorem dX5_comes_15 : decode cX5_comes 15 = .ok (.aload_n 0, 1) := by decide +kernel
theorem dX5_comes_16 : decode cX5_comes 16 = .ok (.aload_n 0, 1) := by decide +kernel
theorem dX5_comes_17 : decode cX5_comes 17 = .ok (.iload_n 1, 1) := by decide +kernel
theorem dX5_comes_18 : decode cX5_comes 18 = .ok (.iconst 1, 1) := by decide +kernel
theorem dX5_comes_19 : decode cX5_comes 19 = .ok (.invokestatic 106, 3) := by decide +kernel
theorem dX5_comes_22 : decode cX5_comes 22 = .ok (.iload_n 2, 1) := by decide +kernel
theorem dX5_comes_23 : decode cX5_comes 23 = .ok (.iload_n 2, 1) := by decide +kernel
theorem dX5_comes_24 : decode cX5_comes 24 = .ok (.invokevirtual 187, 3) := by decide +kernel
theorem dX5_comes_27 : decode cX5_comes 27 = .ok (.invokevirtual 191, 3) := by decide +kernel
theorem dX5_comes_30 : decode cX5_comes 30 = .ok (.goto 9, 3) := by decide +kernel
theorem dX5_comes_33 : decode cX5_comes 33 = .ok (.aload_n 0, 1) := by decide +kernel
theorem dX5_comes_34 : decode cX5_comes 34 = .ok (.ldc 60, 2) := by decide +kernel
theorem dX5_comes_36 : decode cX5_comes 36 = .ok (.invokevirtual 66, 3) := by decide +kernel
theorem dX5_comes_39 : decode cX5_comes 39 = .ok (.ireturn, 1) := by decide +kernel
theorem dX5_stuck_0 : decode cX5_stuck 0 = .ok (.aload_n 0, 1) := by decide +kernel
theorem dX5_stuck_1 : decode cX5_stuck 1 = .ok (.iload_n 1, 1) := by decide +kernel
theorem dX5_stuck_2 : decode cX5_stuck 2 = .ok (.invokevirtual 131, 3) := by decide +kernel
theorem dX5_stuck_5 : decode cX5_stuck 5 = .ok (.ifCond .eq 30, 3) := by decide +kernel
theorem dX5_stuck_8 : decode cX5_stuck 8 = .ok (.iload_n 2, 1) := by decide +kernel
theorem dX5_stuck_9 : decode cX5_stuck 9 = .ok (.invokestatic 74, 3) := by decide +kernel
theorem dX5_stuck_12 : decode cX5_stuck 12 = .ok (.ifCond .eq 23, 3) := by decide +kernel
theorem dX5_stuck_15 : decode cX5_stuck 15 = .ok (.aload_n 0, 1) := by decide +kernel
theorem dX5_stuck_16 : decode cX5_stuck 16 = .ok (.aload_n 0, 1) := by decide +kernel
theorem dX5_stuck_17 : decode cX5_stuck 17 = .ok (.iload_n 1, 1) := by decide +kernel
theorem dX5_stuck_18 : decode cX5_stuck 18 = .ok (.iconst 4, 1) := by decide +kernel
theorem dX5_stuck_19 : decode cX5_stuck 19 = .ok (.invokestatic 106, 3) := by decide +kernel
theorem dX5_stuck_22 : decode cX5_stuck 22 = .ok (.iload_n 2, 1) := by decide +kernel
theorem dX5_stuck_23 : decode cX5_stuck 23 = .ok (.sipush 9999, 3) := by decide +kernel
theorem dX5_stuck_26 : decode cX5_stuck 26 = .ok (.invokevirtual 187, 3) := by decide +kernel
theorem dX5_stuck_29 : decode cX5_stuck 29 = .ok (.invokevirtual 191, 3) := by decide +kernel
theorem dX5_stuck_32 : decode cX5_stuck 32 = .ok (.goto 9, 3) := by decide +kernel
theorem dX5_stuck_35 : decode cX5_stuck 35 = .ok (.aload_n 0, 1) := by decide +kernel
theorem dX5_stuck_36 : decode cX5_stuck 36 = .ok (.ldc 60, 2) := by decide +kernel
theorem dX5_stuck_38 : decode cX5_stuck 38 = .ok (.invokevirtual 66, 3) := by decide +kernel
theorem dX5_stuck_41 : decode cX5_stuck 41 = .ok (.ireturn, 1) := by decide +kernel
theorem dX5_isThought_0 : decode cX5_isThought 0 = .ok (.iload_n 0, 1) := by decide +kernel
theorem dX5_isThought_1 : decode cX5_isThought 1 = .ok (.iconst 0, 1) := by decide +kernel
theorem dX5_isThought_2 : decode cX5_isThought 2 = .ok (.bipush 60, 2) := by decide +kernel
theorem dX5_isThought_4 : decode cX5_isThought 4 = .ok (.invokestatic 70, 3) := by decide +kernel
theorem dX5_isThought_7 : decode cX5_isThought 7 = .ok (.ireturn, 1) := by decide +kernel
theorem dX5_tight_0 : decode cX5_tight 0 = .ok (.iload_n 1, 1) := by decide +kernel
theorem dX5_tight_1 : decode cX5_tight 1 = .ok (.invokestatic 88, 3) := by decide +kernel
theorem dX5_tight_4 : decode cX5_tight 4 = .ok (.ifCond .eq 10, 3) := by decide +kernel
theorem dX5_tight_7 : decode cX5_tight 7 = .ok (.iload_n 2, 1) := by decide +kernel
theorem dX5_tight_8 : decode cX5_tight 8 = .ok (.invokestatic 194, 3) := by decide +kernel
theorem dX5_tight_11 : decode cX5_tight 11 = .ok (.ifCond .ne 10, 3) := by decide +kernel
theorem dX5_tight_14 : decode cX5_tight 14 = .ok (.aload_n 0, 1) := by decide +kernel
theorem dX5_tight_15 : decode cX5_tight 15 = .ok (.ldc 60, 2) := by decide +kernel
theorem dX5_tight_17 : decode cX5_tight 17 = .ok (.invokevirtual 66, 3) := by decide +kernel
theorem dX5_tight_20 : decode cX5_tight 20 = .ok (.ireturn, 1) := by decide +kernel
theorem dX5_tight_21 : decode cX5_tight 21 = .ok (.aload_n 0, 1) := by decide +kernel
theorem dX5_tight_22 : decode cX5_tight 22 = .ok (.getfield 9, 3) := by decide +kernel
theorem dX5_tight_25 : decode cX5_tight 25 = .ok (.bipush 6, 2) := by decide +kernel
theorem dX5_tight_27 : decode cX5_tight 27 = .ok (.iload_n 1, 1) := by decide +kernel
theorem dX5_tight_28 : decode cX5_tight 28 = .ok (.iadd, 1) := by decide +kernel
theorem dX5_tight_29 : decode cX5_tight 29 = .ok (.iaload, 1) := by decide +kernel
theorem dX5_tight_30 : decode cX5_tight 30 = .ok (.istore_n 3, 1) := by decide +kernel
theorem dX5_tight_31 : decode cX5_tight 31 = .ok (.iconst (-1), 1) := by decide +kernel
theorem dX5_tight_32 : decode cX5_tight 32 = .ok (.istore 4, 2) := by decide +kernel
theorem dX5_tight_34 : decode cX5_tight 34 = .ok (.bipush 36, 2) := by decide +kernel
theorem dX5_tight_36 : decode cX5_tight 36 = .ok (.istore 5, 2) := by decide +kernel
theorem dX5_tight_38 : decode cX5_tight 38 = .ok (.iload 5, 2) := by decide +kernel
theorem dX5_tight_40 : decode cX5_tight 40 = .ok (.bipush 16, 2) := by decide +kernel
theorem dX5_tight_42 : decode cX5_tight 42 = .ok (.if_icmp .lt 38, 3) := by decide +kernel
theorem dX5_tight_45 : decode cX5_tight 45 = .ok (.aload_n 0, 1) := by decide +kernel
theorem dX5_tight_46 : decode cX5_tight 46 = .ok (.getfield 9, 3) := by decide +kernel
theorem dX5_tight_49 : decode cX5_tight 49 = .ok (.bipush 6, 2) := by decide +kernel
theorem dX5_tight_51 : decode cX5_tight 51 = .ok (.iload_n 1, 1) := by decide +kernel
theorem dX5_tight_52 : decode cX5_tight 52 = .ok (.iadd, 1) := by decide +kernel
theorem dX5_tight_53 : decode cX5_tight 53 = .ok (.iload 5, 2) := by decide +kernel
theorem dX5_tight_55 : decode cX5_tight 55 = .ok (.iastore, 1) := by decide +kernel
theorem dX5_tight_56 : decode cX5_tight 56 = .ok (.aload_n 0, 1) := by decide +kernel
theorem dX5_tight_57 : decode cX5_tight 57 = .ok (.iconst 5, 1) := by decide +kernel
theorem dX5_tight_58 : decode cX5_tight 58 = .ok (.iload_n 2, 1) := by decide +kernel
theorem dX5_tight_59 : decode cX5_tight 59 = .ok (.invokevirtual 184, 3) := by decide +kernel
theorem dX5_tight_62 : decode cX5_tight 62 = .ok (.ifCond .ne 8, 3) := by decide +kernel
theorem dX5_tight_65 : decode cX5_tight 65 = .ok (.iload 5, 2) := by decide +kernel
theorem dX5_tight_67 : decode cX5_tight 67 = .ok (.goto 5, 3) := by decide +kernel
theorem dX5_tight_70 : decode cX5_tight 70 = .ok (.iload 4, 2) := by decide +kernel
theorem dX5_tight_72 : decode cX5_tight 72 = .ok (.istore 4, 2) := by decide +kernel
theorem dX5_tight_74 : decode cX5_tight 74 = .ok (.iinc 5 (-1), 3) := by decide +kernel
theorem dX5_tight_77 : decode cX5_tight 77 = .ok (.goto (-39), 3) := by decide +kernel
theorem dX5_tight_80 : decode cX5_tight 80 = .ok (.aload_n 0, 1) := by decide +kernel
theorem dX5_tight_81 : decode cX5_tight 81 = .ok (.getfield 9, 3) := by decide +kernel
theorem dX5_tight_84 : decode cX5_tight 84 = .ok (.bipush 6, 2) := by decide +kernel
theorem dX5_tight_86 : decode cX5_tight 86 = .ok (.iload_n 1, 1) := by decide +kernel
theorem dX5_tight_87 : decode cX5_tight 87 = .ok (.iadd, 1) := by decide +kernel
theorem dX5_tight_88 : decode cX5_tight 88 = .ok (.iload_n 3, 1) := by decide +kernel
theorem dX5_tight_89 : decode cX5_tight 89 = .ok (.iastore, 1) := by decide +kernel
theorem dX5_tight_90 : decode cX5_tight 90 = .ok (.aload_n 0, 1) := by decide +kernel
theorem dX5_tight_91 : decode cX5_tight 91 = .ok (.iload 4, 2) := by decide +kernel
theorem dX5_tight_93 : decode cX5_tight 93 = .ok (.invokevirtual 191, 3) := by decide +kernel
theorem dX5_tight_96 : decode cX5_tight 96 = .ok (.ireturn, 1) := by decide +kernel
theorem dX5_measureFor_0 : decode cX5_measureFor 0 = .ok (.aload_n 0, 1) := by decide +kernel
theorem dX5_measureFor_1 : decode cX5_measureFor 1 = .ok (.iload_n 1, 1) := by decide +kernel
theorem dX5_measureFor_2 : decode cX5_measureFor 2 = .ok (.invokevirtual 131, 3) := by decide +kernel
theorem dX5_measureFor_5 : decode cX5_measureFor 5 = .ok (.ifCond .eq 10, 3) := by decide +kernel
theorem dX5_measureFor_8 : decode cX5_measureFor 8 = .ok (.iload_n 2, 1) := by decide +kernel
theorem dX5_measureFor_9 : decode cX5_measureFor 9 = .ok (.invokestatic 82, 3) := by decide +kernel
theorem dX5_measureFor_12 : decode cX5_measureFor 12 = .ok (.ifCond .ne 10, 3) := by decide +kernel
theorem dX5_measureFor_15 : decode cX5_measureFor 15 = .ok (.aload_n 0, 1) := by decide +kernel
theorem dX5_measureFor_16 : decode cX5_measureFor 16 = .ok (.ldc 60, 2) := by decide +kernel
theorem dX5_measureFor_18 : decode cX5_measureFor 18 = .ok (.invokevirtual 66, 3) := by decide +kernel
theorem dX5_measureFor_21 : decode cX5_measureFor 21 = .ok (.ireturn, 1) := by decide +kernel
theorem dX5_measureFor_22 : decode cX5_measureFor 22 = .ok (.iconst (-1), 1) := by decide +kernel
theorem dX5_measureFor_23 : decode cX5_measureFor 23 = .ok (.istore_n 3, 1) := by decide +kernel
theorem dX5_measureFor_24 : decode cX5_measureFor 24 = .ok (.bipush 16, 2) := by decide +kernel
theorem dX5_measureFor_26 : decode cX5_measureFor 26 = .ok (.istore 4, 2) := by decide +kernel
theorem dX5_measureFor_28 : decode cX5_measureFor 28 = .ok (.iload 4, 2) := by decide +kernel
theorem dX5_measureFor_30 : decode cX5_measureFor 30 = .ok (.bipush 36, 2) := by decide +kernel
theorem dX5_measureFor_32 : decode cX5_measureFor 32 = .ok (.if_icmp .gt 35, 3) := by decide +kernel
theorem dX5_measureFor_35 : decode cX5_measureFor 35 = .ok (.iload_n 3, 1) := by decide +kernel
theorem dX5_measureFor_36 : decode cX5_measureFor 36 = .ok (.ifCond .ge 31, 3) := by decide +kernel
theorem dX5_measureFor_39 : decode cX5_measureFor 39 = .ok (.aload_n 0, 1) := by decide +kernel
theorem dX5_measureFor_40 : decode cX5_measureFor 40 = .ok (.iload_n 1, 1) := by decide +kernel
theorem dX5_measureFor_41 : decode cX5_measureFor 41 = .ok (.iload 4, 2) := by decide +kernel
theorem dX5_measureFor_43 : decode cX5_measureFor 43 = .ok (.invokevirtual 141, 3) := by decide +kernel
theorem dX5_measureFor_46 : decode cX5_measureFor 46 = .ok (.iload_n 2, 1) := by decide +kernel
theorem dX5_measureFor_47 : decode cX5_measureFor 47 = .ok (.ishr, 1) := by decide +kernel
theorem dX5_measureFor_48 : decode cX5_measureFor 48 = .ok (.iconst 1, 1) := by decide +kernel
theorem dX5_measureFor_49 : decode cX5_measureFor 49 = .ok (.iand, 1) := by decide +kernel
theorem dX5_measureFor_50 : decode cX5_measureFor 50 = .ok (.iconst 1, 1) := by decide +kernel
theorem dX5_measureFor_51 : decode cX5_measureFor 51 = .ok (.if_icmp .ne 8, 3) := by decide +kernel
theorem dX5_measureFor_54 : decode cX5_measureFor 54 = .ok (.iload 4, 2) := by decide +kernel
theorem dX5_measureFor_56 : decode cX5_measureFor 56 = .ok (.goto 4, 3) := by decide +kernel
theorem dX5_measureFor_59 : decode cX5_measureFor 59 = .ok (.iconst (-1), 1) := by decide +kernel
theorem dX5_measureFor_60 : decode cX5_measureFor 60 = .ok (.istore_n 3, 1) := by decide +kernel
theorem dX5_measureFor_61 : decode cX5_measureFor 61 = .ok (.iinc 4 1, 3) := by decide +kernel
theorem dX5_measureFor_64 : decode cX5_measureFor 64 = .ok (.goto (-36), 3) := by decide +kernel
theorem dX5_measureFor_67 : decode cX5_measureFor 67 = .ok (.aload_n 0, 1) := by decide +kernel
theorem dX5_measureFor_68 : decode cX5_measureFor 68 = .ok (.iload_n 3, 1) := by decide +kernel
theorem dX5_measureFor_69 : decode cX5_measureFor 69 = .ok (.invokevirtual 191, 3) := by decide +kernel
theorem dX5_measureFor_72 : decode cX5_measureFor 72 = .ok (.ireturn, 1) := by decide +kernel
theorem dX5_kindFor_0 : decode cX5_kindFor 0 = .ok (.aload_n 0, 1) := by decide +kernel
theorem dX5_kindFor_1 : decode cX5_kindFor 1 = .ok (.iload_n 1, 1) := by decide +kernel
theorem dX5_kindFor_2 : decode cX5_kindFor 2 = .ok (.invokevirtual 131, 3) := by decide +kernel
theorem dX5_kindFor_5 : decode cX5_kindFor 5 = .ok (.ifCond .eq 10, 3) := by decide +kernel
theorem dX5_kindFor_8 : decode cX5_kindFor 8 = .ok (.iload_n 2, 1) := by decide +kernel
theorem dX5_kindFor_9 : decode cX5_kindFor 9 = .ok (.invokestatic 194, 3) := by decide +kernel
theorem dX5_kindFor_12 : decode cX5_kindFor 12 = .ok (.ifCond .ne 10, 3) := by decide +kernel
theorem dX5_kindFor_15 : decode cX5_kindFor 15 = .ok (.aload_n 0, 1) := by decide +kernel
theorem dX5_kindFor_16 : decode cX5_kindFor 16 = .ok (.ldc 60, 2) := by decide +kernel
theorem dX5_kindFor_18 : decode cX5_kindFor 18 = .ok (.invokevirtual 66, 3) := by decide +kernel
theorem dX5_kindFor_21 : decode cX5_kindFor 21 = .ok (.ireturn, 1) := by decide +kernel
theorem dX5_kindFor_22 : decode cX5_kindFor 22 = .ok (.iload_n 1, 1) := by decide +kernel
theorem dX5_kindFor_23 : decode cX5_kindFor 23 = .ok (.iconst 0, 1) := by decide +kernel
theorem dX5_kindFor_24 : decode cX5_kindFor 24 = .ok (.invokestatic 106, 3) := by decide +kernel
theorem dX5_kindFor_27 : decode cX5_kindFor 27 = .ok (.istore_n 3, 1) := by decide +kernel
theorem dX5_kindFor_28 : decode cX5_kindFor 28 = .ok (.aload_n 0, 1) := by decide +kernel
theorem dX5_kindFor_29 : decode cX5_kindFor 29 = .ok (.getfield 9, 3) := by decide +kernel
theorem dX5_kindFor_32 : decode cX5_kindFor 32 = .ok (.iload_n 3, 1) := by decide +kernel
theorem dX5_kindFor_33 : decode cX5_kindFor 33 = .ok (.iaload, 1) := by decide +kernel
theorem dX5_kindFor_34 : decode cX5_kindFor 34 = .ok (.istore 4, 2) := by decide +kernel
theorem dX5_kindFor_36 : decode cX5_kindFor 36 = .ok (.iconst 0, 1) := by decide +kernel
theorem dX5_kindFor_37 : decode cX5_kindFor 37 = .ok (.istore 5, 2) := by decide +kernel
theorem dX5_kindFor_39 : decode cX5_kindFor 39 = .ok (.sipush 10000, 3) := by decide +kernel
theorem dX5_kindFor_42 : decode cX5_kindFor 42 = .ok (.istore 6, 2) := by decide +kernel
theorem dX5_kindFor_44 : decode cX5_kindFor 44 = .ok (.iconst 0, 1) := by decide +kernel
theorem dX5_kindFor_45 : decode cX5_kindFor 45 = .ok (.istore 7, 2) := by decide +kernel
theorem dX5_kindFor_47 : decode cX5_kindFor 47 = .ok (.iload 7, 2) := by decide +kernel
theorem dX5_kindFor_49 : decode cX5_kindFor 49 = .ok (.bipush 6, 2) := by decide +kernel
theorem dX5_kindFor_51 : decode cX5_kindFor 51 = .ok (.if_icmp .gt 40, 3) := by decide +kernel
theorem dX5_kindFor_54 : decode cX5_kindFor 54 = .ok (.aload_n 0, 1) := by decide +kernel
theorem dX5_kindFor_55 : decode cX5_kindFor 55 = .ok (.getfield 9, 3) := by decide +kernel
theorem dX5_kindFor_58 : decode cX5_kindFor 58 = .ok (.iload_n 3, 1) := by decide +kernel
theorem dX5_kindFor_59 : decode cX5_kindFor 59 = .ok (.iload 7, 2) := by decide +kernel
theorem dX5_kindFor_61 : decode cX5_kindFor 61 = .ok (.iastore, 1) := by decide +kernel
theorem dX5_kindFor_62 : decode cX5_kindFor 62 = .ok (.aload_n 0, 1) := by decide +kernel
theorem dX5_kindFor_63 : decode cX5_kindFor 63 = .ok (.iconst 4, 1) := by decide +kernel
theorem dX5_kindFor_64 : decode cX5_kindFor 64 = .ok (.iload_n 2, 1) := by decide +kernel
theorem dX5_kindFor_65 : decode cX5_kindFor 65 = .ok (.invokevirtual 184, 3) := by decide +kernel
theorem dX5_kindFor_68 : decode cX5_kindFor 68 = .ok (.istore 8, 2) := by decide +kernel
theorem dX5_kindFor_70 : decode cX5_kindFor 70 = .ok (.iload 8, 2) := by decide +kernel
theorem dX5_kindFor_72 : decode cX5_kindFor 72 = .ok (.iload 6, 2) := by decide +kernel
theorem dX5_kindFor_74 : decode cX5_kindFor 74 = .ok (.if_icmp .ge 11, 3) := by decide +kernel
theorem dX5_kindFor_77 : decode cX5_kindFor 77 = .ok (.iload 7, 2) := by decide +kernel
theorem dX5_kindFor_79 : decode cX5_kindFor 79 = .ok (.istore 5, 2) := by decide +kernel
theorem dX5_kindFor_81 : decode cX5_kindFor 81 = .ok (.iload 8, 2) := by decide +kernel
theorem dX5_kindFor_83 : decode cX5_kindFor 83 = .ok (.istore 6, 2) := by decide +kernel
theorem dX5_kindFor_85 : decode cX5_kindFor 85 = .ok (.iinc 7 1, 3) := by decide +kernel
theorem dX5_kindFor_88 : decode cX5_kindFor 88 = .ok (.goto (-41), 3) := by decide +kernel
theorem dX5_kindFor_91 : decode cX5_kindFor 91 = .ok (.aload_n 0, 1) := by decide +kernel
theorem dX5_kindFor_92 : decode cX5_kindFor 92 = .ok (.getfield 9, 3) := by decide +kernel
theorem dX5_kindFor_95 : decode cX5_kindFor 95 = .ok (.iload_n 3, 1) := by decide +kernel
theorem dX5_kindFor_96 : decode cX5_kindFor 96 = .ok (.iload 4, 2) := by decide +kernel
theorem dX5_kindFor_98 : decode cX5_kindFor 98 = .ok (.iastore, 1) := by decide +kernel
theorem dX5_kindFor_99 : decode cX5_kindFor 99 = .ok (.iload 5, 2) := by decide +kernel
theorem dX5_kindFor_101 : decode cX5_kindFor 101 = .ok (.ireturn, 1) := by decide +kernel
theorem dX5_sizeFor_0 : decode cX5_sizeFor 0 = .ok (.aload_n 0, 1) := by decide +kernel
theorem dX5_sizeFor_1 : decode cX5_sizeFor 1 = .ok (.iload_n 1, 1) := by decide +kernel
theorem dX5_sizeFor_2 : decode cX5_sizeFor 2 = .ok (.invokevirtual 131, 3) := by decide +kernel
theorem dX5_sizeFor_5 : decode cX5_sizeFor 5 = .ok (.ifCond .eq 10, 3) := by decide +kernel
theorem dX5_sizeFor_8 : decode cX5_sizeFor 8 = .ok (.iload_n 2, 1) := by decide +kernel
theorem dX5_sizeFor_9 : decode cX5_sizeFor 9 = .ok (.invokestatic 194, 3) := by decide +kernel
theorem dX5_sizeFor_12 : decode cX5_sizeFor 12 = .ok (.ifCond .ne 10, 3) := by decide +kernel
theorem dX5_sizeFor_15 : decode cX5_sizeFor 15 = .ok (.aload_n 0, 1) := by decide +kernel
theorem dX5_sizeFor_16 : decode cX5_sizeFor 16 = .ok (.ldc 60, 2) := by decide +kernel
theorem dX5_sizeFor_18 : decode cX5_sizeFor 18 = .ok (.invokevirtual 66, 3) := by decide +kernel
theorem dX5_sizeFor_21 : decode cX5_sizeFor 21 = .ok (.ireturn, 1) := by decide +kernel
theorem dX5_sizeFor_22 : decode cX5_sizeFor 22 = .ok (.iload_n 1, 1) := by decide +kernel
theorem dX5_sizeFor_23 : decode cX5_sizeFor 23 = .ok (.iconst 2, 1) := by decide +kernel
theorem dX5_sizeFor_24 : decode cX5_sizeFor 24 = .ok (.invokestatic 106, 3) := by decide +kernel
theorem dX5_sizeFor_27 : decode cX5_sizeFor 27 = .ok (.istore_n 3, 1) := by decide +kernel
theorem dX5_sizeFor_28 : decode cX5_sizeFor 28 = .ok (.aload_n 0, 1) := by decide +kernel
theorem dX5_sizeFor_29 : decode cX5_sizeFor 29 = .ok (.getfield 9, 3) := by decide +kernel
theorem dX5_sizeFor_32 : decode cX5_sizeFor 32 = .ok (.iload_n 3, 1) := by decide +kernel
theorem dX5_sizeFor_33 : decode cX5_sizeFor 33 = .ok (.iaload, 1) := by decide +kernel
theorem dX5_sizeFor_34 : decode cX5_sizeFor 34 = .ok (.istore 4, 2) := by decide +kernel
theorem dX5_sizeFor_36 : decode cX5_sizeFor 36 = .ok (.iconst (-1), 1) := by decide +kernel
theorem dX5_sizeFor_37 : decode cX5_sizeFor 37 = .ok (.istore 5, 2) := by decide +kernel
theorem dX5_sizeFor_39 : decode cX5_sizeFor 39 = .ok (.iconst 1, 1) := by decide +kernel
theorem dX5_sizeFor_40 : decode cX5_sizeFor 40 = .ok (.istore 6, 2) := by decide +kernel
theorem dX5_sizeFor_42 : decode cX5_sizeFor 42 = .ok (.iload 6, 2) := by decide +kernel
theorem dX5_sizeFor_44 : decode cX5_sizeFor 44 = .ok (.bipush 40, 2) := by decide +kernel
theorem dX5_sizeFor_46 : decode cX5_sizeFor 46 = .ok (.if_icmp .gt 45, 3) := by decide +kernel
theorem dX5_sizeFor_49 : decode cX5_sizeFor 49 = .ok (.aload_n 0, 1) := by decide +kernel
theorem dX5_sizeFor_50 : decode cX5_sizeFor 50 = .ok (.getfield 9, 3) := by decide +kernel
theorem dX5_sizeFor_53 : decode cX5_sizeFor 53 = .ok (.iload_n 3, 1) := by decide +kernel
theorem dX5_sizeFor_54 : decode cX5_sizeFor 54 = .ok (.iload 6, 2) := by decide +kernel
theorem dX5_sizeFor_56 : decode cX5_sizeFor 56 = .ok (.iastore, 1) := by decide +kernel
theorem dX5_sizeFor_57 : decode cX5_sizeFor 57 = .ok (.aload_n 0, 1) := by decide +kernel
theorem dX5_sizeFor_58 : decode cX5_sizeFor 58 = .ok (.iload_n 1, 1) := by decide +kernel
theorem dX5_sizeFor_59 : decode cX5_sizeFor 59 = .ok (.iconst 1, 1) := by decide +kernel
theorem dX5_sizeFor_60 : decode cX5_sizeFor 60 = .ok (.invokestatic 106, 3) := by decide +kernel
theorem dX5_sizeFor_63 : decode cX5_sizeFor 63 = .ok (.iload_n 2, 1) := by decide +kernel
theorem dX5_sizeFor_64 : decode cX5_sizeFor 64 = .ok (.invokevirtual 184, 3) := by decide +kernel
theorem dX5_sizeFor_67 : decode cX5_sizeFor 67 = .ok (.aload_n 0, 1) := by decide +kernel
theorem dX5_sizeFor_68 : decode cX5_sizeFor 68 = .ok (.iload_n 1, 1) := by decide +kernel
theorem dX5_sizeFor_69 : decode cX5_sizeFor 69 = .ok (.iconst 3, 1) := by decide +kernel
theorem dX5_sizeFor_70 : decode cX5_sizeFor 70 = .ok (.invokevirtual 116, 3) := by decide +kernel
theorem dX5_sizeFor_73 : decode cX5_sizeFor 73 = .ok (.if_icmp .ne 8, 3) := by decide +kernel
theorem dX5_sizeFor_76 : decode cX5_sizeFor 76 = .ok (.iload 6, 2) := by decide +kernel
theorem dX5_sizeFor_78 : decode cX5_sizeFor 78 = .ok (.goto 5, 3) := by decide +kernel
theorem dX5_sizeFor_81 : decode cX5_sizeFor 81 = .ok (.iload 5, 2) := by decide +kernel
theorem dX5_sizeFor_83 : decode cX5_sizeFor 83 = .ok (.istore 5, 2) := by decide +kernel
theorem dX5_sizeFor_85 : decode cX5_sizeFor 85 = .ok (.iinc 6 1, 3) := by decide +kernel
theorem dX5_sizeFor_88 : decode cX5_sizeFor 88 = .ok (.goto (-46), 3) := by decide +kernel
theorem dX5_sizeFor_91 : decode cX5_sizeFor 91 = .ok (.aload_n 0, 1) := by decide +kernel
theorem dX5_sizeFor_92 : decode cX5_sizeFor 92 = .ok (.getfield 9, 3) := by decide +kernel
theorem dX5_sizeFor_95 : decode cX5_sizeFor 95 = .ok (.iload_n 3, 1) := by decide +kernel
theorem dX5_sizeFor_96 : decode cX5_sizeFor 96 = .ok (.iload 4, 2) := by decide +kernel
theorem dX5_sizeFor_98 : decode cX5_sizeFor 98 = .ok (.iastore, 1) := by decide +kernel
theorem dX5_sizeFor_99 : decode cX5_sizeFor 99 = .ok (.aload_n 0, 1) := by decide +kernel
theorem dX5_sizeFor_100 : decode cX5_sizeFor 100 = .ok (.iload 5, 2) := by decide +kernel
theorem dX5_sizeFor_102 : decode cX5_sizeFor 102 = .ok (.invokevirtual 191, 3) := by decide +kernel
theorem dX5_sizeFor_105 : decode cX5_sizeFor 105 = .ok (.ireturn, 1) := by decide +kernel
theorem dX5_holds_0 : decode cX5_holds 0 = .ok (.aload_n 0, 1) := by decide +kernel
theorem dX5_holds_1 : decode cX5_holds 1 = .ok (.getfield 9, 3) := by decide +kernel
theorem dX5_holds_4 : decode cX5_holds 4 = .ok (.aload_n 0, 1) := by decide +kernel
theorem dX5_holds_5 : decode cX5_holds 5 = .ok (.getfield 16, 3) := by decide +kernel
theorem dX5_holds_8 : decode cX5_holds 8 = .ok (.invokestatic 61, 3) := by decide +kernel
theorem dX5_holds_11 : decode cX5_holds 11 = .ok (.iconst 0, 1) := by decide +kernel
theorem dX5_holds_12 : decode cX5_holds 12 = .ok (.istore_n 3, 1) := by decide +kernel
theorem dX5_holds_13 : decode cX5_holds 13 = .ok (.iload_n 3, 1) := by decide +kernel
theorem dX5_holds_14 : decode cX5_holds 14 = .ok (.aload_n 0, 1) := by decide +kernel
theorem dX5_holds_15 : decode cX5_holds 15 = .ok (.getfield 9, 3) := by decide +kernel
theorem dX5_holds_18 : decode cX5_holds 18 = .ok (.iconst 1, 1) := by decide +kernel
theorem dX5_holds_19 : decode cX5_holds 19 = .ok (.iaload, 1) := by decide +kernel
theorem dX5_holds_20 : decode cX5_holds 20 = .ok (.if_icmp .ge 29, 3) := by decide +kernel
theorem dX5_holds_23 : decode cX5_holds 23 = .ok (.iload_n 1, 1) := by decide +kernel
theorem dX5_holds_24 : decode cX5_holds 24 = .ok (.iload_n 3, 1) := by decide +kernel
theorem dX5_holds_25 : decode cX5_holds 25 = .ok (.ishr, 1) := by decide +kernel
theorem dX5_holds_26 : decode cX5_holds 26 = .ok (.iconst 1, 1) := by decide +kernel
theorem dX5_holds_27 : decode cX5_holds 27 = .ok (.iand, 1) := by decide +kernel
theorem dX5_holds_28 : decode cX5_holds 28 = .ok (.iconst 1, 1) := by decide +kernel
theorem dX5_holds_29 : decode cX5_holds 29 = .ok (.if_icmp .ne 14, 3) := by decide +kernel
theorem dX5_holds_32 : decode cX5_holds 32 = .ok (.aload_n 0, 1) := by decide +kernel
theorem dX5_holds_33 : decode cX5_holds 33 = .ok (.getfield 9, 3) := by decide +kernel
theorem dX5_holds_36 : decode cX5_holds 36 = .ok (.iload_n 3, 1) := by decide +kernel
theorem dX5_holds_37 : decode cX5_holds 37 = .ok (.iconst 5, 1) := by decide +kernel
theorem dX5_holds_38 : decode cX5_holds 38 = .ok (.invokestatic 106, 3) := by decide +kernel
theorem dX5_holds_41 : decode cX5_holds 41 = .ok (.iconst 1, 1) := by decide +kernel
theorem dX5_holds_42 : decode cX5_holds 42 = .ok (.iastore, 1) := by decide +kernel
theorem dX5_holds_43 : decode cX5_holds 43 = .ok (.iinc 3 1, 3) := by decide +kernel
theorem dX5_holds_46 : decode cX5_holds 46 = .ok (.goto (-33), 3) := by decide +kernel
theorem dX5_holds_49 : decode cX5_holds 49 = .ok (.aload_n 0, 1) := by decide +kernel
theorem dX5_holds_50 : decode cX5_holds 50 = .ok (.iload_n 2, 1) := by decide +kernel
theorem dX5_holds_51 : decode cX5_holds 51 = .ok (.invokevirtual 166, 3) := by decide +kernel
theorem dX5_holds_54 : decode cX5_holds 54 = .ok (.aload_n 0, 1) := by decide +kernel
theorem dX5_holds_55 : decode cX5_holds 55 = .ok (.getfield 9, 3) := by decide +kernel
theorem dX5_holds_58 : decode cX5_holds 58 = .ok (.iconst 5, 1) := by decide +kernel
theorem dX5_holds_59 : decode cX5_holds 59 = .ok (.iaload, 1) := by decide +kernel
theorem dX5_holds_60 : decode cX5_holds 60 = .ok (.ifCond .ne 7, 3) := by decide +kernel
theorem dX5_holds_63 : decode cX5_holds 63 = .ok (.iconst 1, 1) := by decide +kernel
theorem dX5_holds_64 : decode cX5_holds 64 = .ok (.goto 4, 3) := by decide +kernel
theorem dX5_holds_67 : decode cX5_holds 67 = .ok (.iconst 0, 1) := by decide +kernel
theorem dX5_holds_68 : decode cX5_holds 68 = .ok (.istore_n 3, 1) := by decide +kernel
theorem dX5_holds_69 : decode cX5_holds 69 = .ok (.aload_n 0, 1) := by decide +kernel
theorem dX5_holds_70 : decode cX5_holds 70 = .ok (.getfield 16, 3) := by decide +kernel
theorem dX5_holds_73 : decode cX5_holds 73 = .ok (.aload_n 0, 1) := by decide +kernel
theorem dX5_holds_74 : decode cX5_holds 74 = .ok (.getfield 9, 3) := by decide +kernel
theorem dX5_holds_77 : decode cX5_holds 77 = .ok (.invokestatic 61, 3) := by decide +kernel
theorem dX5_holds_80 : decode cX5_holds 80 = .ok (.iload_n 3, 1) := by decide +kernel
theorem dX5_holds_81 : decode cX5_holds 81 = .ok (.ireturn, 1) := by decide +kernel
theorem dX5_send_0 : decode cX5_send 0 = .ok (.iload_n 1, 1) := by decide +kernel
theorem dX5_send_1 : decode cX5_send 1 = .ok (.iconst 0, 1) := by decide +kernel
theorem dX5_send_2 : decode cX5_send 2 = .ok (.bipush 20, 2) := by decide +kernel
theorem dX5_send_4 : decode cX5_send 4 = .ok (.invokestatic 70, 3) := by decide +kernel
theorem dX5_send_7 : decode cX5_send 7 = .ok (.ifCond .ne 10, 3) := by decide +kernel
theorem dX5_send_10 : decode cX5_send 10 = .ok (.aload_n 0, 1) := by decide +kernel
theorem dX5_send_11 : decode cX5_send 11 = .ok (.ldc 60, 2) := by decide +kernel
theorem dX5_send_13 : decode cX5_send 13 = .ok (.invokevirtual 66, 3) := by decide +kernel
theorem dX5_send_16 : decode cX5_send 16 = .ok (.ireturn, 1) := by decide +kernel
theorem dX5_send_17 : decode cX5_send 17 = .ok (.iconst (-1), 1) := by decide +kernel
theorem dX5_send_18 : decode cX5_send 18 = .ok (.istore_n 2, 1) := by decide +kernel
theorem dX5_send_19 : decode cX5_send 19 = .ok (.iconst 1, 1) := by decide +kernel
theorem dX5_send_20 : decode cX5_send 20 = .ok (.aload_n 0, 1) := by decide +kernel
theorem dX5_send_21 : decode cX5_send 21 = .ok (.getfield 9, 3) := by decide +kernel
theorem dX5_send_24 : decode cX5_send 24 = .ok (.iconst 1, 1) := by decide +kernel
theorem dX5_send_25 : decode cX5_send 25 = .ok (.iaload, 1) := by decide +kernel
theorem dX5_send_26 : decode cX5_send 26 = .ok (.ishl, 1) := by decide +kernel
theorem dX5_send_27 : decode cX5_send 27 = .ok (.iconst 1, 1) := by decide +kernel
theorem dX5_send_28 : decode cX5_send 28 = .ok (.isub, 1) := by decide +kernel
theorem dX5_send_29 : decode cX5_send 29 = .ok (.istore_n 3, 1) := by decide +kernel
theorem dX5_send_30 : decode cX5_send 30 = .ok (.iload_n 3, 1) := by decide +kernel
theorem dX5_send_31 : decode cX5_send 31 = .ok (.ifCond .lt 39, 3) := by decide +kernel
theorem dX5_send_34 : decode cX5_send 34 = .ok (.iload_n 2, 1) := by decide +kernel
theorem dX5_send_35 : decode cX5_send 35 = .ok (.ifCond .lt 14, 3) := by decide +kernel
theorem dX5_send_38 : decode cX5_send 38 = .ok (.iload_n 3, 1) := by decide +kernel
theorem dX5_send_39 : decode cX5_send 39 = .ok (.invokestatic 197, 3) := by decide +kernel
theorem dX5_send_42 : decode cX5_send 42 = .ok (.iload_n 2, 1) := by decide +kernel
theorem dX5_send_43 : decode cX5_send 43 = .ok (.invokestatic 197, 3) := by decide +kernel
theorem dX5_send_46 : decode cX5_send 46 = .ok (.if_icmp .gt 16, 3) := by decide +kernel
theorem dX5_send_49 : decode cX5_send 49 = .ok (.aload_n 0, 1) := by decide +kernel
theorem dX5_send_50 : decode cX5_send 50 = .ok (.iload_n 3, 1) := by decide +kernel
theorem dX5_send_51 : decode cX5_send 51 = .ok (.iload_n 1, 1) := by decide +kernel
theorem dX5_send_52 : decode cX5_send 52 = .ok (.invokevirtual 200, 3) := by decide +kernel
theorem dX5_send_55 : decode cX5_send 55 = .ok (.ifCond .eq 7, 3) := by decide +kernel
theorem dX5_send_58 : decode cX5_send 58 = .ok (.iload_n 3, 1) := by decide +kernel
theorem dX5_send_59 : decode cX5_send 59 = .ok (.goto 4, 3) := by decide +kernel
theorem dX5_send_62 : decode cX5_send 62 = .ok (.iload_n 2, 1) := by decide +kernel
theorem dX5_send_63 : decode cX5_send 63 = .ok (.istore_n 2, 1) := by decide +kernel
theorem dX5_send_64 : decode cX5_send 64 = .ok (.iinc 3 (-1), 3) := by decide +kernel
theorem dX5_send_67 : decode cX5_send 67 = .ok (.goto (-37), 3) := by decide +kernel
theorem dX5_send_70 : decode cX5_send 70 = .ok (.aload_n 0, 1) := by decide +kernel
theorem dX5_send_71 : decode cX5_send 71 = .ok (.iload_n 2, 1) := by decide +kernel
theorem dX5_send_72 : decode cX5_send 72 = .ok (.invokevirtual 191, 3) := by decide +kernel
theorem dX5_send_75 : decode cX5_send 75 = .ok (.ireturn, 1) := by decide +kernel
theorem dX5_lacks_0 : decode cX5_lacks 0 = .ok (.iload_n 1, 1) := by decide +kernel
theorem dX5_lacks_1 : decode cX5_lacks 1 = .ok (.invokestatic 203, 3) := by decide +kernel
theorem dX5_lacks_4 : decode cX5_lacks 4 = .ok (.ifCond .ne 8, 3) := by decide +kernel
theorem dX5_lacks_7 : decode cX5_lacks 7 = .ok (.ldc 60, 2) := by decide +kernel
theorem dX5_lacks_9 : decode cX5_lacks 9 = .ok (.goto 27, 3) := by decide +kernel
theorem dX5_lacks_12 : decode cX5_lacks 12 = .ok (.aload_n 0, 1) := by decide +kernel
theorem dX5_lacks_13 : decode cX5_lacks 13 = .ok (.getfield 48, 3) := by decide +kernel
theorem dX5_lacks_16 : decode cX5_lacks 16 = .ok (.iload_n 1, 1) := by decide +kernel
theorem dX5_lacks_17 : decode cX5_lacks 17 = .ok (.iaload, 1) := by decide +kernel
theorem dX5_lacks_18 : decode cX5_lacks 18 = .ok (.ifCond .ne 8, 3) := by decide +kernel
theorem dX5_lacks_21 : decode cX5_lacks 21 = .ok (.ldc 206, 2) := by decide +kernel
theorem dX5_lacks_23 : decode cX5_lacks 23 = .ok (.goto 13, 3) := by decide +kernel
theorem dX5_lacks_26 : decode cX5_lacks 26 = .ok (.iload_n 2, 1) := by decide +kernel
theorem dX5_lacks_27 : decode cX5_lacks 27 = .ok (.ifCond .eq 7, 3) := by decide +kernel
theorem dX5_lacks_30 : decode cX5_lacks 30 = .ok (.iconst 0, 1) := by decide +kernel
theorem dX5_lacks_31 : decode cX5_lacks 31 = .ok (.goto 5, 3) := by decide +kernel
theorem dX5_lacks_34 : decode cX5_lacks 34 = .ok (.ldc 60, 2) := by decide +kernel
theorem dX5_lacks_36 : decode cX5_lacks 36 = .ok (.ireturn, 1) := by decide +kernel
theorem dX5_isSo_0 : decode cX5_isSo 0 = .ok (.aload_n 0, 1) := by decide +kernel
theorem dX5_isSo_1 : decode cX5_isSo 1 = .ok (.getfield 9, 3) := by decide +kernel
theorem dX5_isSo_4 : decode cX5_isSo 4 = .ok (.aload_n 0, 1) := by decide +kernel
theorem dX5_isSo_5 : decode cX5_isSo 5 = .ok (.getfield 16, 3) := by decide +kernel
theorem dX5_isSo_8 : decode cX5_isSo 8 = .ok (.invokestatic 61, 3) := by decide +kernel
theorem dX5_isSo_11 : decode cX5_isSo 11 = .ok (.iconst 1, 1) := by decide +kernel
theorem dX5_isSo_12 : decode cX5_isSo 12 = .ok (.istore_n 3, 1) := by decide +kernel
theorem dX5_isSo_13 : decode cX5_isSo 13 = .ok (.iconst 0, 1) := by decide +kernel
theorem dX5_isSo_14 : decode cX5_isSo 14 = .ok (.istore 4, 2) := by decide +kernel
theorem dX5_isSo_16 : decode cX5_isSo 16 = .ok (.iload 4, 2) := by decide +kernel
theorem dX5_isSo_18 : decode cX5_isSo 18 = .ok (.aload_n 0, 1) := by decide +kernel
theorem dX5_isSo_19 : decode cX5_isSo 19 = .ok (.getfield 51, 3) := by decide +kernel
theorem dX5_isSo_22 : decode cX5_isSo 22 = .ok (.iload_n 1, 1) := by decide +kernel
theorem dX5_isSo_23 : decode cX5_isSo 23 = .ok (.iaload, 1) := by decide +kernel
theorem dX5_isSo_24 : decode cX5_isSo 24 = .ok (.if_icmp .ge 54, 3) := by decide +kernel
theorem dX5_isSo_27 : decode cX5_isSo 27 = .ok (.iload_n 3, 1) := by decide +kernel
theorem dX5_isSo_28 : decode cX5_isSo 28 = .ok (.ifCond .eq 50, 3) := by decide +kernel
theorem dX5_isSo_31 : decode cX5_isSo 31 = .ok (.aload_n 0, 1) := by decide +kernel
theorem dX5_isSo_32 : decode cX5_isSo 32 = .ok (.getfield 54, 3) := by decide +kernel
theorem dX5_isSo_35 : decode cX5_isSo 35 = .ok (.bipush 40, 2) := by decide +kernel
theorem dX5_isSo_37 : decode cX5_isSo 37 = .ok (.iload_n 1, 1) := by decide +kernel
theorem dX5_isSo_38 : decode cX5_isSo 38 = .ok (.imul, 1) := by decide +kernel
theorem dX5_isSo_39 : decode cX5_isSo 39 = .ok (.iload 4, 2) := by decide +kernel
theorem dX5_isSo_41 : decode cX5_isSo 41 = .ok (.iadd, 1) := by decide +kernel
theorem dX5_isSo_42 : decode cX5_isSo 42 = .ok (.iaload, 1) := by decide +kernel
theorem dX5_isSo_43 : decode cX5_isSo 43 = .ok (.istore 5, 2) := by decide +kernel
theorem dX5_isSo_45 : decode cX5_isSo 45 = .ok (.aload_n 0, 1) := by decide +kernel
theorem dX5_isSo_46 : decode cX5_isSo 46 = .ok (.invokevirtual 162, 3) := by decide +kernel
theorem dX5_isSo_49 : decode cX5_isSo 49 = .ok (.iload 5, 2) := by decide +kernel
theorem dX5_isSo_51 : decode cX5_isSo 51 = .ok (.iconst (-1), 1) := by decide +kernel
theorem dX5_isSo_52 : decode cX5_isSo 52 = .ok (.if_icmp .eq 14, 3) := by decide +kernel
theorem dX5_isSo_55 : decode cX5_isSo 55 = .ok (.iload 5, 2) := by decide +kernel
theorem dX5_isSo_57 : decode cX5_isSo 57 = .ok (.aload_n 0, 1) := by decide +kernel
theorem dX5_isSo_58 : decode cX5_isSo 58 = .ok (.iload_n 2, 1) := by decide +kernel
theorem dX5_isSo_59 : decode cX5_isSo 59 = .ok (.iconst 1, 1) := by decide +kernel
theorem dX5_isSo_60 : decode cX5_isSo 60 = .ok (.invokevirtual 116, 3) := by decide +kernel
theorem dX5_isSo_63 : decode cX5_isSo 63 = .ok (.if_icmp .ne 7, 3) := by decide +kernel
theorem dX5_isSo_66 : decode cX5_isSo 66 = .ok (.iconst 1, 1) := by decide +kernel
theorem dX5_isSo_67 : decode cX5_isSo 67 = .ok (.goto 4, 3) := by decide +kernel
theorem dX5_isSo_70 : decode cX5_isSo 70 = .ok (.iconst 0, 1) := by decide +kernel
theorem dX5_isSo_71 : decode cX5_isSo 71 = .ok (.istore_n 3, 1) := by decide +kernel
theorem dX5_isSo_72 : decode cX5_isSo 72 = .ok (.iinc 4 1, 3) := by decide +kernel
theorem dX5_isSo_75 : decode cX5_isSo 75 = .ok (.goto (-59), 3) := by decide +kernel
theorem dX5_isSo_78 : decode cX5_isSo 78 = .ok (.aload_n 0, 1) := by decide +kernel
theorem dX5_isSo_79 : decode cX5_isSo 79 = .ok (.getfield 16, 3) := by decide +kernel
theorem dX5_isSo_82 : decode cX5_isSo 82 = .ok (.aload_n 0, 1) := by decide +kernel
theorem dX5_isSo_83 : decode cX5_isSo 83 = .ok (.getfield 9, 3) := by decide +kernel
theorem dX5_isSo_86 : decode cX5_isSo 86 = .ok (.invokestatic 61, 3) := by decide +kernel
theorem dX5_isSo_89 : decode cX5_isSo 89 = .ok (.iload_n 3, 1) := by decide +kernel
theorem dX5_isSo_90 : decode cX5_isSo 90 = .ok (.ireturn, 1) := by decide +kernel
theorem dX5_fits_0 : decode cX5_fits 0 = .ok (.aload_n 0, 1) := by decide +kernel
theorem dX5_fits_1 : decode cX5_fits 1 = .ok (.iload_n 1, 1) := by decide +kernel
theorem dX5_fits_2 : decode cX5_fits 2 = .ok (.aload_n 0, 1) := by decide +kernel
theorem dX5_fits_3 : decode cX5_fits 3 = .ok (.iload_n 2, 1) := by decide +kernel
theorem dX5_fits_4 : decode cX5_fits 4 = .ok (.invokevirtual 131, 3) := by decide +kernel
theorem dX5_fits_7 : decode cX5_fits 7 = .ok (.invokevirtual 207, 3) := by decide +kernel
theorem dX5_fits_10 : decode cX5_fits 10 = .ok (.istore_n 3, 1) := by decide +kernel
theorem dX5_fits_11 : decode cX5_fits 11 = .ok (.iload_n 3, 1) := by decide +kernel
theorem dX5_fits_12 : decode cX5_fits 12 = .ok (.ifCond .eq 9, 3) := by decide +kernel
theorem dX5_fits_15 : decode cX5_fits 15 = .ok (.aload_n 0, 1) := by decide +kernel
theorem dX5_fits_16 : decode cX5_fits 16 = .ok (.iload_n 3, 1) := by decide +kernel
theorem dX5_fits_17 : decode cX5_fits 17 = .ok (.invokevirtual 66, 3) := by decide +kernel
theorem dX5_fits_20 : decode cX5_fits 20 = .ok (.ireturn, 1) := by decide +kernel
theorem dX5_fits_21 : decode cX5_fits 21 = .ok (.aload_n 0, 1) := by decide +kernel
theorem dX5_fits_22 : decode cX5_fits 22 = .ok (.invokevirtual 94, 3) := by decide +kernel
theorem dX5_fits_25 : decode cX5_fits 25 = .ok (.istore 4, 2) := by decide +kernel
theorem dX5_fits_27 : decode cX5_fits 27 = .ok (.aload_n 0, 1) := by decide +kernel
theorem dX5_fits_28 : decode cX5_fits 28 = .ok (.getfield 9, 3) := by decide +kernel
theorem dX5_fits_31 : decode cX5_fits 31 = .ok (.iload 4, 2) := by decide +kernel
theorem dX5_fits_33 : decode cX5_fits 33 = .ok (.iaload, 1) := by decide +kernel
theorem dX5_fits_34 : decode cX5_fits 34 = .ok (.istore 5, 2) := by decide +kernel
theorem dX5_fits_36 : decode cX5_fits 36 = .ok (.iconst 0, 1) := by decide +kernel
theorem dX5_fits_37 : decode cX5_fits 37 = .ok (.istore 6, 2) := by decide +kernel
theorem dX5_fits_39 : decode cX5_fits 39 = .ok (.bipush 16, 2) := by decide +kernel
theorem dX5_fits_41 : decode cX5_fits 41 = .ok (.istore 7, 2) := by decide +kernel
theorem dX5_fits_43 : decode cX5_fits 43 = .ok (.iload 7, 2) := by decide +kernel
theorem dX5_fits_45 : decode cX5_fits 45 = .ok (.bipush 36, 2) := by decide +kernel
theorem dX5_fits_47 : decode cX5_fits 47 = .ok (.if_icmp .gt 37, 3) := by decide +kernel
theorem dX5_fits_50 : decode cX5_fits 50 = .ok (.aload_n 0, 1) := by decide +kernel
theorem dX5_fits_51 : decode cX5_fits 51 = .ok (.getfield 9, 3) := by decide +kernel
theorem dX5_fits_54 : decode cX5_fits 54 = .ok (.iload 4, 2) := by decide +kernel
theorem dX5_fits_56 : decode cX5_fits 56 = .ok (.iload 7, 2) := by decide +kernel
theorem dX5_fits_58 : decode cX5_fits 58 = .ok (.iastore, 1) := by decide +kernel
theorem dX5_fits_59 : decode cX5_fits 59 = .ok (.iload 6, 2) := by decide +kernel
theorem dX5_fits_61 : decode cX5_fits 61 = .ok (.aload_n 0, 1) := by decide +kernel
theorem dX5_fits_62 : decode cX5_fits 62 = .ok (.iload_n 1, 1) := by decide +kernel
theorem dX5_fits_63 : decode cX5_fits 63 = .ok (.iload_n 2, 1) := by decide +kernel
theorem dX5_fits_64 : decode cX5_fits 64 = .ok (.invokevirtual 211, 3) := by decide +kernel
theorem dX5_fits_67 : decode cX5_fits 67 = .ok (.ifCond .eq 7, 3) := by decide +kernel
theorem dX5_fits_70 : decode cX5_fits 70 = .ok (.iconst 1, 1) := by decide +kernel
theorem dX5_fits_71 : decode cX5_fits 71 = .ok (.goto 4, 3) := by decide +kernel
theorem dX5_fits_74 : decode cX5_fits 74 = .ok (.iconst 0, 1) := by decide +kernel
theorem dX5_fits_75 : decode cX5_fits 75 = .ok (.iadd, 1) := by decide +kernel
theorem dX5_fits_76 : decode cX5_fits 76 = .ok (.istore 6, 2) := by decide +kernel
theorem dX5_fits_78 : decode cX5_fits 78 = .ok (.iinc 7 1, 3) := by decide +kernel
theorem dX5_fits_81 : decode cX5_fits 81 = .ok (.goto (-38), 3) := by decide +kernel
theorem dX5_fits_84 : decode cX5_fits 84 = .ok (.aload_n 0, 1) := by decide +kernel
theorem dX5_fits_85 : decode cX5_fits 85 = .ok (.getfield 9, 3) := by decide +kernel
theorem dX5_fits_88 : decode cX5_fits 88 = .ok (.iload 4, 2) := by decide +kernel
theorem dX5_fits_90 : decode cX5_fits 90 = .ok (.iload 5, 2) := by decide +kernel
theorem dX5_fits_92 : decode cX5_fits 92 = .ok (.iastore, 1) := by decide +kernel
theorem dX5_fits_93 : decode cX5_fits 93 = .ok (.iload 6, 2) := by decide +kernel
theorem dX5_fits_95 : decode cX5_fits 95 = .ok (.ireturn, 1) := by decide +kernel
theorem dX5_kinds_0 : decode cX5_kinds 0 = .ok (.aload_n 0, 1) := by decide +kernel
theorem dX5_kinds_1 : decode cX5_kinds 1 = .ok (.iload_n 1, 1) := by decide +kernel
theorem dX5_kinds_2 : decode cX5_kinds 2 = .ok (.aload_n 0, 1) := by decide +kernel
theorem dX5_kinds_3 : decode cX5_kinds 3 = .ok (.iload_n 2, 1) := by decide +kernel
theorem dX5_kinds_4 : decode cX5_kinds 4 = .ok (.invokevirtual 131, 3) := by decide +kernel
theorem dX5_kinds_7 : decode cX5_kinds 7 = .ok (.invokevirtual 207, 3) := by decide +kernel
theorem dX5_kinds_10 : decode cX5_kinds 10 = .ok (.istore_n 3, 1) := by decide +kernel
theorem dX5_kinds_11 : decode cX5_kinds 11 = .ok (.iload_n 3, 1) := by decide +kernel
theorem dX5_kinds_12 : decode cX5_kinds 12 = .ok (.ifCond .eq 9, 3) := by decide +kernel
theorem dX5_kinds_15 : decode cX5_kinds 15 = .ok (.aload_n 0, 1) := by decide +kernel
theorem dX5_kinds_16 : decode cX5_kinds 16 = .ok (.iload_n 3, 1) := by decide +kernel
theorem dX5_kinds_17 : decode cX5_kinds 17 = .ok (.invokevirtual 66, 3) := by decide +kernel
theorem dX5_kinds_20 : decode cX5_kinds 20 = .ok (.ireturn, 1) := by decide +kernel
theorem dX5_kinds_21 : decode cX5_kinds 21 = .ok (.iload_n 2, 1) := by decide +kernel
theorem dX5_kinds_22 : decode cX5_kinds 22 = .ok (.iconst 0, 1) := by decide +kernel
theorem dX5_kinds_23 : decode cX5_kinds 23 = .ok (.invokestatic 106, 3) := by decide +kernel
theorem dX5_kinds_26 : decode cX5_kinds 26 = .ok (.istore 4, 2) := by decide +kernel
theorem dX5_kinds_28 : decode cX5_kinds 28 = .ok (.aload_n 0, 1) := by decide +kernel
theorem dX5_kinds_29 : decode cX5_kinds 29 = .ok (.getfield 9, 3) := by decide +kernel
theorem dX5_kinds_32 : decode cX5_kinds 32 = .ok (.iload 4, 2) := by decide +kernel
theorem dX5_kinds_34 : decode cX5_kinds 34 = .ok (.iaload, 1) := by decide +kernel
theorem dX5_kinds_35 : decode cX5_kinds 35 = .ok (.istore 5, 2) := by decide +kernel
theorem dX5_kinds_37 : decode cX5_kinds 37 = .ok (.iconst 0, 1) := by decide +kernel
theorem dX5_kinds_38 : decode cX5_kinds 38 = .ok (.istore 6, 2) := by decide +kernel
theorem dX5_kinds_40 : decode cX5_kinds 40 = .ok (.iconst 0, 1) := by decide +kernel
theorem dX5_kinds_41 : decode cX5_kinds 41 = .ok (.istore 7, 2) := by decide +kernel
theorem dX5_kinds_43 : decode cX5_kinds 43 = .ok (.iload 7, 2) := by decide +kernel
theorem dX5_kinds_45 : decode cX5_kinds 45 = .ok (.bipush 6, 2) := by decide +kernel
theorem dX5_kinds_47 : decode cX5_kinds 47 = .ok (.if_icmp .gt 40, 3) := by decide +kernel
theorem dX5_kinds_50 : decode cX5_kinds 50 = .ok (.aload_n 0, 1) := by decide +kernel
theorem dX5_kinds_51 : decode cX5_kinds 51 = .ok (.getfield 9, 3) := by decide +kernel
theorem dX5_kinds_54 : decode cX5_kinds 54 = .ok (.iload 4, 2) := by decide +kernel
theorem dX5_kinds_56 : decode cX5_kinds 56 = .ok (.iload 7, 2) := by decide +kernel
theorem dX5_kinds_58 : decode cX5_kinds 58 = .ok (.iastore, 1) := by decide +kernel
theorem dX5_kinds_59 : decode cX5_kinds 59 = .ok (.iload 6, 2) := by decide +kernel
theorem dX5_kinds_61 : decode cX5_kinds 61 = .ok (.aload_n 0, 1) := by decide +kernel
theorem dX5_kinds_62 : decode cX5_kinds 62 = .ok (.iload_n 1, 1) := by decide +kernel
theorem dX5_kinds_63 : decode cX5_kinds 63 = .ok (.iload_n 2, 1) := by decide +kernel
theorem dX5_kinds_64 : decode cX5_kinds 64 = .ok (.invokevirtual 211, 3) := by decide +kernel
theorem dX5_kinds_67 : decode cX5_kinds 67 = .ok (.ifCond .eq 10, 3) := by decide +kernel
theorem dX5_kinds_70 : decode cX5_kinds 70 = .ok (.iconst 1, 1) := by decide +kernel
theorem dX5_kinds_71 : decode cX5_kinds 71 = .ok (.iload 7, 2) := by decide +kernel
theorem dX5_kinds_73 : decode cX5_kinds 73 = .ok (.ishl, 1) := by decide +kernel
theorem dX5_kinds_74 : decode cX5_kinds 74 = .ok (.goto 4, 3) := by decide +kernel
theorem dX5_kinds_77 : decode cX5_kinds 77 = .ok (.iconst 0, 1) := by decide +kernel
theorem dX5_kinds_78 : decode cX5_kinds 78 = .ok (.ior, 1) := by decide +kernel
theorem dX5_kinds_79 : decode cX5_kinds 79 = .ok (.istore 6, 2) := by decide +kernel
theorem dX5_kinds_81 : decode cX5_kinds 81 = .ok (.iinc 7 1, 3) := by decide +kernel
theorem dX5_kinds_84 : decode cX5_kinds 84 = .ok (.goto (-41), 3) := by decide +kernel
theorem dX5_kinds_87 : decode cX5_kinds 87 = .ok (.aload_n 0, 1) := by decide +kernel
theorem dX5_kinds_88 : decode cX5_kinds 88 = .ok (.getfield 9, 3) := by decide +kernel
theorem dX5_kinds_91 : decode cX5_kinds 91 = .ok (.iload 4, 2) := by decide +kernel
theorem dX5_kinds_93 : decode cX5_kinds 93 = .ok (.iload 5, 2) := by decide +kernel
theorem dX5_kinds_95 : decode cX5_kinds 95 = .ok (.iastore, 1) := by decide +kernel
theorem dX5_kinds_96 : decode cX5_kinds 96 = .ok (.iload 6, 2) := by decide +kernel
theorem dX5_kinds_98 : decode cX5_kinds 98 = .ok (.ireturn, 1) := by decide +kernel
theorem dX5_drawn_0 : decode cX5_drawn 0 = .ok (.aload_n 0, 1) := by decide +kernel
theorem dX5_drawn_1 : decode cX5_drawn 1 = .ok (.getfield 9, 3) := by decide +kernel
theorem dX5_drawn_4 : decode cX5_drawn 4 = .ok (.iconst 2, 1) := by decide +kernel
theorem dX5_drawn_5 : decode cX5_drawn 5 = .ok (.aload_n 0, 1) := by decide +kernel
theorem dX5_drawn_6 : decode cX5_drawn 6 = .ok (.getfield 9, 3) := by decide +kernel
theorem dX5_drawn_9 : decode cX5_drawn 9 = .ok (.iconst 2, 1) := by decide +kernel
theorem dX5_drawn_10 : decode cX5_drawn 10 = .ok (.iaload, 1) := by decide +kernel
theorem dX5_drawn_11 : decode cX5_drawn 11 = .ok (.ldc 214, 2) := by decide +kernel
theorem dX5_drawn_13 : decode cX5_drawn 13 = .ok (.imul, 1) := by decide +kernel
theorem dX5_drawn_14 : decode cX5_drawn 14 = .ok (.sipush 12345, 3) := by decide +kernel
theorem dX5_drawn_17 : decode cX5_drawn 17 = .ok (.iadd, 1) := by decide +kernel
theorem dX5_drawn_18 : decode cX5_drawn 18 = .ok (.iastore, 1) := by decide +kernel
theorem dX5_drawn_19 : decode cX5_drawn 19 = .ok (.aload_n 0, 1) := by decide +kernel
theorem dX5_drawn_20 : decode cX5_drawn 20 = .ok (.getfield 9, 3) := by decide +kernel
theorem dX5_drawn_23 : decode cX5_drawn 23 = .ok (.iconst 2, 1) := by decide +kernel
theorem dX5_drawn_24 : decode cX5_drawn 24 = .ok (.iaload, 1) := by decide +kernel
theorem dX5_drawn_25 : decode cX5_drawn 25 = .ok (.bipush 8, 2) := by decide +kernel
end
section
theorem dX5_drawn_27 : decode cX5_drawn 27 = .ok (.iushr, 1) := by decide +kernel
theorem dX5_drawn_28 : decode cX5_drawn 28 = .ok (.ireturn, 1) := by decide +kernel
theorem dX5_party_0 : decode cX5_party 0 = .ok (.iload_n 1, 1) := by decide +kernel
theorem dX5_party_1 : decode cX5_party 1 = .ok (.iconst 1, 1) := by decide +kernel
theorem dX5_party_2 : decode cX5_party 2 = .ok (.bipush 20, 2) := by decide +kernel
theorem dX5_party_4 : decode cX5_party 4 = .ok (.invokestatic 70, 3) := by decide +kernel
theorem dX5_party_7 : decode cX5_party 7 = .ok (.ifCond .ne 10, 3) := by decide +kernel
theorem dX5_party_10 : decode cX5_party 10 = .ok (.aload_n 0, 1) := by decide +kernel
theorem dX5_party_11 : decode cX5_party 11 = .ok (.ldc 60, 2) := by decide +kernel
theorem dX5_party_13 : decode cX5_party 13 = .ok (.invokevirtual 66, 3) := by decide +kernel
theorem dX5_party_16 : decode cX5_party 16 = .ok (.ireturn, 1) := by decide +kernel
theorem dX5_party_17 : decode cX5_party 17 = .ok (.aload_n 0, 1) := by decide +kernel
theorem dX5_party_18 : decode cX5_party 18 = .ok (.getfield 9, 3) := by decide +kernel
theorem dX5_party_21 : decode cX5_party 21 = .ok (.iconst 0, 1) := by decide +kernel
theorem dX5_party_22 : decode cX5_party 22 = .ok (.iaload, 1) := by decide +kernel
theorem dX5_party_23 : decode cX5_party 23 = .ok (.iload_n 1, 1) := by decide +kernel
theorem dX5_party_24 : decode cX5_party 24 = .ok (.iadd, 1) := by decide +kernel
theorem dX5_party_25 : decode cX5_party 25 = .ok (.ldc 161, 2) := by decide +kernel
theorem dX5_party_27 : decode cX5_party 27 = .ok (.if_icmp .le 10, 3) := by decide +kernel
theorem dX5_party_30 : decode cX5_party 30 = .ok (.aload_n 0, 1) := by decide +kernel
theorem dX5_party_31 : decode cX5_party 31 = .ok (.ldc 165, 2) := by decide +kernel
theorem dX5_party_33 : decode cX5_party 33 = .ok (.invokevirtual 66, 3) := by decide +kernel
theorem dX5_party_36 : decode cX5_party 36 = .ok (.ireturn, 1) := by decide +kernel
theorem dX5_party_37 : decode cX5_party 37 = .ok (.iconst 0, 1) := by decide +kernel
theorem dX5_party_38 : decode cX5_party 38 = .ok (.istore_n 2, 1) := by decide +kernel
theorem dX5_party_39 : decode cX5_party 39 = .ok (.iload_n 2, 1) := by decide +kernel
theorem dX5_party_40 : decode cX5_party 40 = .ok (.iload_n 1, 1) := by decide +kernel
theorem dX5_party_41 : decode cX5_party 41 = .ok (.if_icmp .ge 75, 3) := by decide +kernel
theorem dX5_party_44 : decode cX5_party 44 = .ok (.bipush 16, 2) := by decide +kernel
theorem dX5_party_46 : decode cX5_party 46 = .ok (.aload_n 0, 1) := by decide +kernel
theorem dX5_party_47 : decode cX5_party 47 = .ok (.invokevirtual 215, 3) := by decide +kernel
theorem dX5_party_50 : decode cX5_party 50 = .ok (.bipush 21, 2) := by decide +kernel
theorem dX5_party_52 : decode cX5_party 52 = .ok (.irem, 1) := by decide +kernel
theorem dX5_party_53 : decode cX5_party 53 = .ok (.iadd, 1) := by decide +kernel
theorem dX5_party_54 : decode cX5_party 54 = .ok (.istore_n 3, 1) := by decide +kernel
theorem dX5_party_55 : decode cX5_party 55 = .ok (.aload_n 0, 1) := by decide +kernel
theorem dX5_party_56 : decode cX5_party 56 = .ok (.getfield 9, 3) := by decide +kernel
theorem dX5_party_59 : decode cX5_party 59 = .ok (.aload_n 0, 1) := by decide +kernel
theorem dX5_party_60 : decode cX5_party 60 = .ok (.invokevirtual 94, 3) := by decide +kernel
theorem dX5_party_63 : decode cX5_party 63 = .ok (.iload_n 3, 1) := by decide +kernel
theorem dX5_party_64 : decode cX5_party 64 = .ok (.iastore, 1) := by decide +kernel
theorem dX5_party_65 : decode cX5_party 65 = .ok (.aload_n 0, 1) := by decide +kernel
theorem dX5_party_66 : decode cX5_party 66 = .ok (.invokevirtual 215, 3) := by decide +kernel
theorem dX5_party_69 : decode cX5_party 69 = .ok (.bipush 8, 2) := by decide +kernel
theorem dX5_party_71 : decode cX5_party 71 = .ok (.irem, 1) := by decide +kernel
theorem dX5_party_72 : decode cX5_party 72 = .ok (.istore 4, 2) := by decide +kernel
theorem dX5_party_74 : decode cX5_party 74 = .ok (.aload_n 0, 1) := by decide +kernel
theorem dX5_party_75 : decode cX5_party 75 = .ok (.iload 4, 2) := by decide +kernel
theorem dX5_party_77 : decode cX5_party 77 = .ok (.invokevirtual 131, 3) := by decide +kernel
theorem dX5_party_80 : decode cX5_party 80 = .ok (.ifCond .eq 26, 3) := by decide +kernel
theorem dX5_party_83 : decode cX5_party 83 = .ok (.aload_n 0, 1) := by decide +kernel
theorem dX5_party_84 : decode cX5_party 84 = .ok (.getfield 9, 3) := by decide +kernel
theorem dX5_party_87 : decode cX5_party 87 = .ok (.iload 4, 2) := by decide +kernel
theorem dX5_party_89 : decode cX5_party 89 = .ok (.iconst 3, 1) := by decide +kernel
theorem dX5_party_90 : decode cX5_party 90 = .ok (.invokestatic 106, 3) := by decide +kernel
theorem dX5_party_93 : decode cX5_party 93 = .ok (.aload_n 0, 1) := by decide +kernel
theorem dX5_party_94 : decode cX5_party 94 = .ok (.iload 4, 2) := by decide +kernel
theorem dX5_party_96 : decode cX5_party 96 = .ok (.iconst 3, 1) := by decide +kernel
theorem dX5_party_97 : decode cX5_party 97 = .ok (.invokevirtual 116, 3) := by decide +kernel
theorem dX5_party_100 : decode cX5_party 100 = .ok (.iconst 1, 1) := by decide +kernel
theorem dX5_party_101 : decode cX5_party 101 = .ok (.iadd, 1) := by decide +kernel
theorem dX5_party_102 : decode cX5_party 102 = .ok (.bipush 16, 2) := by decide +kernel
theorem dX5_party_104 : decode cX5_party 104 = .ok (.irem, 1) := by decide +kernel
theorem dX5_party_105 : decode cX5_party 105 = .ok (.iastore, 1) := by decide +kernel
theorem dX5_party_106 : decode cX5_party 106 = .ok (.aload_n 0, 1) := by decide +kernel
theorem dX5_party_107 : decode cX5_party 107 = .ok (.invokevirtual 162, 3) := by decide +kernel
theorem dX5_party_110 : decode cX5_party 110 = .ok (.iinc 2 1, 3) := by decide +kernel
theorem dX5_party_113 : decode cX5_party 113 = .ok (.goto (-74), 3) := by decide +kernel
theorem dX5_party_116 : decode cX5_party 116 = .ok (.aload_n 0, 1) := by decide +kernel
theorem dX5_party_117 : decode cX5_party 117 = .ok (.getfield 9, 3) := by decide +kernel
theorem dX5_party_120 : decode cX5_party 120 = .ok (.iconst 4, 1) := by decide +kernel
theorem dX5_party_121 : decode cX5_party 121 = .ok (.iaload, 1) := by decide +kernel
theorem dX5_party_122 : decode cX5_party 122 = .ok (.ireturn, 1) := by decide +kernel
theorem dX5_odds_0 : decode cX5_odds 0 = .ok (.aload_n 0, 1) := by decide +kernel
theorem dX5_odds_1 : decode cX5_odds 1 = .ok (.iload_n 1, 1) := by decide +kernel
theorem dX5_odds_2 : decode cX5_odds 2 = .ok (.invokevirtual 131, 3) := by decide +kernel
theorem dX5_odds_5 : decode cX5_odds 5 = .ok (.ifCond .eq 22, 3) := by decide +kernel
theorem dX5_odds_8 : decode cX5_odds 8 = .ok (.iload_n 2, 1) := by decide +kernel
theorem dX5_odds_9 : decode cX5_odds 9 = .ok (.iconst 0, 1) := by decide +kernel
theorem dX5_odds_10 : decode cX5_odds 10 = .ok (.bipush 13, 2) := by decide +kernel
theorem dX5_odds_12 : decode cX5_odds 12 = .ok (.invokestatic 70, 3) := by decide +kernel
theorem dX5_odds_15 : decode cX5_odds 15 = .ok (.ifCond .eq 12, 3) := by decide +kernel
theorem dX5_odds_18 : decode cX5_odds 18 = .ok (.iload_n 3, 1) := by decide +kernel
theorem dX5_odds_19 : decode cX5_odds 19 = .ok (.iconst 0, 1) := by decide +kernel
theorem dX5_odds_20 : decode cX5_odds 20 = .ok (.iconst 1, 1) := by decide +kernel
theorem dX5_odds_21 : decode cX5_odds 21 = .ok (.invokestatic 70, 3) := by decide +kernel
theorem dX5_odds_24 : decode cX5_odds 24 = .ok (.ifCond .ne 11, 3) := by decide +kernel
theorem dX5_odds_27 : decode cX5_odds 27 = .ok (.aload_n 0, 1) := by decide +kernel
theorem dX5_odds_28 : decode cX5_odds 28 = .ok (.ldc 60, 2) := by decide +kernel
theorem dX5_odds_30 : decode cX5_odds 30 = .ok (.invokevirtual 66, 3) := by decide +kernel
theorem dX5_odds_33 : decode cX5_odds 33 = .ok (.i2l, 1) := by decide +kernel
theorem dX5_odds_34 : decode cX5_odds 34 = .ok (.lreturn, 1) := by decide +kernel
theorem dX5_odds_35 : decode cX5_odds 35 = .ok (.bipush 21, 2) := by decide +kernel
theorem dX5_odds_37 : decode cX5_odds 37 = .ok (.istore 4, 2) := by decide +kernel
theorem dX5_odds_39 : decode cX5_odds 39 = .ok (.iconst 0, 1) := by decide +kernel
theorem dX5_odds_40 : decode cX5_odds 40 = .ok (.istore 5, 2) := by decide +kernel
theorem dX5_odds_42 : decode cX5_odds 42 = .ok (.bipush 16, 2) := by decide +kernel
theorem dX5_odds_44 : decode cX5_odds 44 = .ok (.istore 6, 2) := by decide +kernel
theorem dX5_odds_46 : decode cX5_odds 46 = .ok (.iload 6, 2) := by decide +kernel
theorem dX5_odds_48 : decode cX5_odds 48 = .ok (.bipush 36, 2) := by decide +kernel
theorem dX5_odds_50 : decode cX5_odds 50 = .ok (.if_icmp .gt 30, 3) := by decide +kernel
theorem dX5_odds_53 : decode cX5_odds 53 = .ok (.iload 5, 2) := by decide +kernel
theorem dX5_odds_55 : decode cX5_odds 55 = .ok (.aload_n 0, 1) := by decide +kernel
theorem dX5_odds_56 : decode cX5_odds 56 = .ok (.iload_n 1, 1) := by decide +kernel
theorem dX5_odds_57 : decode cX5_odds 57 = .ok (.iload 6, 2) := by decide +kernel
theorem dX5_odds_59 : decode cX5_odds 59 = .ok (.invokevirtual 141, 3) := by decide +kernel
theorem dX5_odds_62 : decode cX5_odds 62 = .ok (.aload_n 0, 1) := by decide +kernel
theorem dX5_odds_63 : decode cX5_odds 63 = .ok (.iload_n 1, 1) := by decide +kernel
theorem dX5_odds_64 : decode cX5_odds 64 = .ok (.iconst 3, 1) := by decide +kernel
theorem dX5_odds_65 : decode cX5_odds 65 = .ok (.invokevirtual 116, 3) := by decide +kernel
theorem dX5_odds_68 : decode cX5_odds 68 = .ok (.ishr, 1) := by decide +kernel
theorem dX5_odds_69 : decode cX5_odds 69 = .ok (.iconst 1, 1) := by decide +kernel
theorem dX5_odds_70 : decode cX5_odds 70 = .ok (.iand, 1) := by decide +kernel
theorem dX5_odds_71 : decode cX5_odds 71 = .ok (.iadd, 1) := by decide +kernel
theorem dX5_odds_72 : decode cX5_odds 72 = .ok (.istore 5, 2) := by decide +kernel
theorem dX5_odds_74 : decode cX5_odds 74 = .ok (.iinc 6 1, 3) := by decide +kernel
theorem dX5_odds_77 : decode cX5_odds 77 = .ok (.goto (-31), 3) := by decide +kernel
theorem dX5_odds_80 : decode cX5_odds 80 = .ok (.iload 4, 2) := by decide +kernel
theorem dX5_odds_82 : decode cX5_odds 82 = .ok (.istore 6, 2) := by decide +kernel
theorem dX5_odds_84 : decode cX5_odds 84 = .ok (.iload 5, 2) := by decide +kernel
theorem dX5_odds_86 : decode cX5_odds 86 = .ok (.istore 7, 2) := by decide +kernel
theorem dX5_odds_88 : decode cX5_odds 88 = .ok (.iload 7, 2) := by decide +kernel
theorem dX5_odds_90 : decode cX5_odds 90 = .ok (.ifCond .eq 21, 3) := by decide +kernel
theorem dX5_odds_93 : decode cX5_odds 93 = .ok (.iload 6, 2) := by decide +kernel
theorem dX5_odds_95 : decode cX5_odds 95 = .ok (.iload 7, 2) := by decide +kernel
theorem dX5_odds_97 : decode cX5_odds 97 = .ok (.irem, 1) := by decide +kernel
theorem dX5_odds_98 : decode cX5_odds 98 = .ok (.istore 8, 2) := by decide +kernel
theorem dX5_odds_100 : decode cX5_odds 100 = .ok (.iload 7, 2) := by decide +kernel
theorem dX5_odds_102 : decode cX5_odds 102 = .ok (.istore 6, 2) := by decide +kernel
theorem dX5_odds_104 : decode cX5_odds 104 = .ok (.iload 8, 2) := by decide +kernel
theorem dX5_odds_106 : decode cX5_odds 106 = .ok (.istore 7, 2) := by decide +kernel
theorem dX5_odds_108 : decode cX5_odds 108 = .ok (.goto (-20), 3) := by decide +kernel
theorem dX5_odds_111 : decode cX5_odds 111 = .ok (.lconst 1, 1) := by decide +kernel
theorem dX5_odds_112 : decode cX5_odds 112 = .ok (.lstore 8, 2) := by decide +kernel
theorem dX5_odds_114 : decode cX5_odds 114 = .ok (.iconst 0, 1) := by decide +kernel
theorem dX5_odds_115 : decode cX5_odds 115 = .ok (.istore 10, 2) := by decide +kernel
theorem dX5_odds_117 : decode cX5_odds 117 = .ok (.iload 10, 2) := by decide +kernel
theorem dX5_odds_119 : decode cX5_odds 119 = .ok (.iload_n 2, 1) := by decide +kernel
theorem dX5_odds_120 : decode cX5_odds 120 = .ok (.if_icmp .ge 29, 3) := by decide +kernel
theorem dX5_odds_123 : decode cX5_odds 123 = .ok (.lload 8, 2) := by decide +kernel
theorem dX5_odds_125 : decode cX5_odds 125 = .ok (.iload_n 3, 1) := by decide +kernel
theorem dX5_odds_126 : decode cX5_odds 126 = .ok (.ifCond .ne 8, 3) := by decide +kernel
theorem dX5_odds_129 : decode cX5_odds 129 = .ok (.iload 5, 2) := by decide +kernel
theorem dX5_odds_131 : decode cX5_odds 131 = .ok (.goto 5, 3) := by decide +kernel
theorem dX5_odds_134 : decode cX5_odds 134 = .ok (.iload 4, 2) := by decide +kernel
theorem dX5_odds_136 : decode cX5_odds 136 = .ok (.iload 6, 2) := by decide +kernel
theorem dX5_odds_138 : decode cX5_odds 138 = .ok (.idiv, 1) := by decide +kernel
theorem dX5_odds_139 : decode cX5_odds 139 = .ok (.i2l, 1) := by decide +kernel
theorem dX5_odds_140 : decode cX5_odds 140 = .ok (.lmul, 1) := by decide +kernel
theorem dX5_odds_141 : decode cX5_odds 141 = .ok (.lstore 8, 2) := by decide +kernel
theorem dX5_odds_143 : decode cX5_odds 143 = .ok (.iinc 10 1, 3) := by decide +kernel
theorem dX5_odds_146 : decode cX5_odds 146 = .ok (.goto (-29), 3) := by decide +kernel
theorem dX5_odds_149 : decode cX5_odds 149 = .ok (.lload 8, 2) := by decide +kernel
theorem dX5_odds_151 : decode cX5_odds 151 = .ok (.lreturn, 1) := by decide +kernel
theorem dX5_seed_0 : decode cX5_seed 0 = .ok (.aload_n 0, 1) := by decide +kernel
theorem dX5_seed_1 : decode cX5_seed 1 = .ok (.iconst 2, 1) := by decide +kernel
theorem dX5_seed_2 : decode cX5_seed 2 = .ok (.iload_n 1, 1) := by decide +kernel
theorem dX5_seed_3 : decode cX5_seed 3 = .ok (.invokevirtual 78, 3) := by decide +kernel
theorem dX5_seed_6 : decode cX5_seed 6 = .ok (.ireturn, 1) := by decide +kernel
theorem dX5_feed_0 : decode cX5_feed 0 = .ok (.iload_n 2, 1) := by decide +kernel
theorem dX5_feed_1 : decode cX5_feed 1 = .ok (.iconst 1, 1) := by decide +kernel
theorem dX5_feed_2 : decode cX5_feed 2 = .ok (.iconst 4, 1) := by decide +kernel
theorem dX5_feed_3 : decode cX5_feed 3 = .ok (.invokestatic 70, 3) := by decide +kernel
theorem dX5_feed_6 : decode cX5_feed 6 = .ok (.ifCond .ne 10, 3) := by decide +kernel
theorem dX5_feed_9 : decode cX5_feed 9 = .ok (.aload_n 0, 1) := by decide +kernel
theorem dX5_feed_10 : decode cX5_feed 10 = .ok (.ldc 60, 2) := by decide +kernel
theorem dX5_feed_12 : decode cX5_feed 12 = .ok (.invokevirtual 66, 3) := by decide +kernel
theorem dX5_feed_15 : decode cX5_feed 15 = .ok (.ireturn, 1) := by decide +kernel
theorem dX5_feed_16 : decode cX5_feed 16 = .ok (.aload_n 0, 1) := by decide +kernel
theorem dX5_feed_17 : decode cX5_feed 17 = .ok (.getfield 218, 3) := by decide +kernel
theorem dX5_feed_20 : decode cX5_feed 20 = .ok (.iload_n 2, 1) := by decide +kernel
theorem dX5_feed_21 : decode cX5_feed 21 = .ok (.iadd, 1) := by decide +kernel
theorem dX5_feed_22 : decode cX5_feed 22 = .ok (.bipush 120, 2) := by decide +kernel
theorem dX5_feed_24 : decode cX5_feed 24 = .ok (.if_icmp .le 10, 3) := by decide +kernel
theorem dX5_feed_27 : decode cX5_feed 27 = .ok (.aload_n 0, 1) := by decide +kernel
theorem dX5_feed_28 : decode cX5_feed 28 = .ok (.ldc 112, 2) := by decide +kernel
theorem dX5_feed_30 : decode cX5_feed 30 = .ok (.invokevirtual 66, 3) := by decide +kernel
theorem dX5_feed_33 : decode cX5_feed 33 = .ok (.ireturn, 1) := by decide +kernel
theorem dX5_feed_34 : decode cX5_feed 34 = .ok (.iload_n 2, 1) := by decide +kernel
theorem dX5_feed_35 : decode cX5_feed 35 = .ok (.iconst 1, 1) := by decide +kernel
theorem dX5_feed_36 : decode cX5_feed 36 = .ok (.isub, 1) := by decide +kernel
theorem dX5_feed_37 : decode cX5_feed 37 = .ok (.istore_n 3, 1) := by decide +kernel
theorem dX5_feed_38 : decode cX5_feed 38 = .ok (.iload_n 3, 1) := by decide +kernel
theorem dX5_feed_39 : decode cX5_feed 39 = .ok (.ifCond .lt 38, 3) := by decide +kernel
theorem dX5_feed_42 : decode cX5_feed 42 = .ok (.aload_n 0, 1) := by decide +kernel
theorem dX5_feed_43 : decode cX5_feed 43 = .ok (.getfield 22, 3) := by decide +kernel
theorem dX5_feed_46 : decode cX5_feed 46 = .ok (.aload_n 0, 1) := by decide +kernel
theorem dX5_feed_47 : decode cX5_feed 47 = .ok (.getfield 218, 3) := by decide +kernel
theorem dX5_feed_50 : decode cX5_feed 50 = .ok (.iload_n 1, 1) := by decide +kernel
theorem dX5_feed_51 : decode cX5_feed 51 = .ok (.bipush 8, 2) := by decide +kernel
theorem dX5_feed_53 : decode cX5_feed 53 = .ok (.iload_n 3, 1) := by decide +kernel
theorem dX5_feed_54 : decode cX5_feed 54 = .ok (.imul, 1) := by decide +kernel
theorem dX5_feed_55 : decode cX5_feed 55 = .ok (.ishr, 1) := by decide +kernel
theorem dX5_feed_56 : decode cX5_feed 56 = .ok (.sipush 255, 3) := by decide +kernel
theorem dX5_feed_59 : decode cX5_feed 59 = .ok (.iand, 1) := by decide +kernel
theorem dX5_feed_60 : decode cX5_feed 60 = .ok (.iastore, 1) := by decide +kernel
theorem dX5_feed_61 : decode cX5_feed 61 = .ok (.aload_n 0, 1) := by decide +kernel
theorem dX5_feed_62 : decode cX5_feed 62 = .ok (.dup, 1) := by decide +kernel
theorem dX5_feed_63 : decode cX5_feed 63 = .ok (.getfield 218, 3) := by decide +kernel
theorem dX5_feed_66 : decode cX5_feed 66 = .ok (.iconst 1, 1) := by decide +kernel
theorem dX5_feed_67 : decode cX5_feed 67 = .ok (.iadd, 1) := by decide +kernel
theorem dX5_feed_68 : decode cX5_feed 68 = .ok (.putfield 218, 3) := by decide +kernel
theorem dX5_feed_71 : decode cX5_feed 71 = .ok (.iinc 3 (-1), 3) := by decide +kernel
theorem dX5_feed_74 : decode cX5_feed 74 = .ok (.goto (-36), 3) := by decide +kernel
theorem dX5_feed_77 : decode cX5_feed 77 = .ok (.aload_n 0, 1) := by decide +kernel
theorem dX5_feed_78 : decode cX5_feed 78 = .ok (.getfield 218, 3) := by decide +kernel
theorem dX5_feed_81 : decode cX5_feed 81 = .ok (.ireturn, 1) := by decide +kernel
theorem dX5_wipe_0 : decode cX5_wipe 0 = .ok (.aload_n 0, 1) := by decide +kernel
theorem dX5_wipe_1 : decode cX5_wipe 1 = .ok (.getfield 218, 3) := by decide +kernel
theorem dX5_wipe_4 : decode cX5_wipe 4 = .ok (.istore_n 1, 1) := by decide +kernel
theorem dX5_wipe_5 : decode cX5_wipe 5 = .ok (.aload_n 0, 1) := by decide +kernel
theorem dX5_wipe_6 : decode cX5_wipe 6 = .ok (.iconst 0, 1) := by decide +kernel
theorem dX5_wipe_7 : decode cX5_wipe 7 = .ok (.putfield 218, 3) := by decide +kernel
theorem dX5_wipe_10 : decode cX5_wipe 10 = .ok (.iload_n 1, 1) := by decide +kernel
theorem dX5_wipe_11 : decode cX5_wipe 11 = .ok (.ireturn, 1) := by decide +kernel
theorem dX5_byteAt_0 : decode cX5_byteAt 0 = .ok (.iload_n 1, 1) := by decide +kernel
theorem dX5_byteAt_1 : decode cX5_byteAt 1 = .ok (.aload_n 0, 1) := by decide +kernel
theorem dX5_byteAt_2 : decode cX5_byteAt 2 = .ok (.getfield 218, 3) := by decide +kernel
theorem dX5_byteAt_5 : decode cX5_byteAt 5 = .ok (.if_icmp .ge 12, 3) := by decide +kernel
theorem dX5_byteAt_8 : decode cX5_byteAt 8 = .ok (.aload_n 0, 1) := by decide +kernel
theorem dX5_byteAt_9 : decode cX5_byteAt 9 = .ok (.getfield 22, 3) := by decide +kernel
theorem dX5_byteAt_12 : decode cX5_byteAt 12 = .ok (.iload_n 1, 1) := by decide +kernel
theorem dX5_byteAt_13 : decode cX5_byteAt 13 = .ok (.iaload, 1) := by decide +kernel
theorem dX5_byteAt_14 : decode cX5_byteAt 14 = .ok (.goto 4, 3) := by decide +kernel
theorem dX5_byteAt_17 : decode cX5_byteAt 17 = .ok (.iconst (-1), 1) := by decide +kernel
theorem dX5_byteAt_18 : decode cX5_byteAt 18 = .ok (.ireturn, 1) := by decide +kernel
theorem dX5_token_0 : decode cX5_token 0 = .ok (.aload_n 0, 1) := by decide +kernel
theorem dX5_token_1 : decode cX5_token 1 = .ok (.aload_n 0, 1) := by decide +kernel
theorem dX5_token_2 : decode cX5_token 2 = .ok (.getfield 222, 3) := by decide +kernel
theorem dX5_token_5 : decode cX5_token 5 = .ok (.putfield 225, 3) := by decide +kernel
theorem dX5_token_8 : decode cX5_token 8 = .ok (.aload_n 0, 1) := by decide +kernel
theorem dX5_token_9 : decode cX5_token 9 = .ok (.aload_n 0, 1) := by decide +kernel
theorem dX5_token_10 : decode cX5_token 10 = .ok (.getfield 225, 3) := by decide +kernel
theorem dX5_token_13 : decode cX5_token 13 = .ok (.invokevirtual 228, 3) := by decide +kernel
theorem dX5_token_16 : decode cX5_token 16 = .ok (.bipush 32, 2) := by decide +kernel
theorem dX5_token_18 : decode cX5_token 18 = .ok (.if_icmp .ne 16, 3) := by decide +kernel
theorem dX5_token_21 : decode cX5_token 21 = .ok (.aload_n 0, 1) := by decide +kernel
theorem dX5_token_22 : decode cX5_token 22 = .ok (.dup, 1) := by decide +kernel
theorem dX5_token_23 : decode cX5_token 23 = .ok (.getfield 225, 3) := by decide +kernel
theorem dX5_token_26 : decode cX5_token 26 = .ok (.iconst 1, 1) := by decide +kernel
theorem dX5_token_27 : decode cX5_token 27 = .ok (.iadd, 1) := by decide +kernel
theorem dX5_token_28 : decode cX5_token 28 = .ok (.putfield 225, 3) := by decide +kernel
theorem dX5_token_31 : decode cX5_token 31 = .ok (.goto (-23), 3) := by decide +kernel
theorem dX5_token_34 : decode cX5_token 34 = .ok (.aload_n 0, 1) := by decide +kernel
theorem dX5_token_35 : decode cX5_token 35 = .ok (.aload_n 0, 1) := by decide +kernel
theorem dX5_token_36 : decode cX5_token 36 = .ok (.getfield 225, 3) := by decide +kernel
theorem dX5_token_39 : decode cX5_token 39 = .ok (.invokevirtual 228, 3) := by decide +kernel
theorem dX5_token_42 : decode cX5_token 42 = .ok (.istore_n 1, 1) := by decide +kernel
theorem dX5_token_43 : decode cX5_token 43 = .ok (.aload_n 0, 1) := by decide +kernel
theorem dX5_token_44 : decode cX5_token 44 = .ok (.aload_n 0, 1) := by decide +kernel
theorem dX5_token_45 : decode cX5_token 45 = .ok (.getfield 225, 3) := by decide +kernel
theorem dX5_token_48 : decode cX5_token 48 = .ok (.putfield 222, 3) := by decide +kernel
theorem dX5_token_51 : decode cX5_token 51 = .ok (.aload_n 0, 1) := by decide +kernel
theorem dX5_token_52 : decode cX5_token 52 = .ok (.iconst 0, 1) := by decide +kernel
theorem dX5_token_53 : decode cX5_token 53 = .ok (.putfield 231, 3) := by decide +kernel
theorem dX5_token_56 : decode cX5_token 56 = .ok (.iload_n 1, 1) := by decide +kernel
theorem dX5_token_57 : decode cX5_token 57 = .ok (.ifCond .ge 11, 3) := by decide +kernel
theorem dX5_token_60 : decode cX5_token 60 = .ok (.aload_n 0, 1) := by decide +kernel
theorem dX5_token_61 : decode cX5_token 61 = .ok (.iconst 0, 1) := by decide +kernel
theorem dX5_token_62 : decode cX5_token 62 = .ok (.putfield 234, 3) := by decide +kernel
theorem dX5_token_65 : decode cX5_token 65 = .ok (.goto 141, 3) := by decide +kernel
theorem dX5_token_68 : decode cX5_token 68 = .ok (.iload_n 1, 1) := by decide +kernel
theorem dX5_token_69 : decode cX5_token 69 = .ok (.bipush 97, 2) := by decide +kernel
theorem dX5_token_71 : decode cX5_token 71 = .ok (.bipush 122, 2) := by decide +kernel
theorem dX5_token_73 : decode cX5_token 73 = .ok (.invokestatic 70, 3) := by decide +kernel
theorem dX5_token_76 : decode cX5_token 76 = .ok (.ifCond .eq 39, 3) := by decide +kernel
theorem dX5_token_79 : decode cX5_token 79 = .ok (.aload_n 0, 1) := by decide +kernel
theorem dX5_token_80 : decode cX5_token 80 = .ok (.iconst 1, 1) := by decide +kernel
theorem dX5_token_81 : decode cX5_token 81 = .ok (.putfield 234, 3) := by decide +kernel
theorem dX5_token_84 : decode cX5_token 84 = .ok (.aload_n 0, 1) := by decide +kernel
theorem dX5_token_85 : decode cX5_token 85 = .ok (.aload_n 0, 1) := by decide +kernel
theorem dX5_token_86 : decode cX5_token 86 = .ok (.getfield 222, 3) := by decide +kernel
theorem dX5_token_89 : decode cX5_token 89 = .ok (.invokevirtual 228, 3) := by decide +kernel
theorem dX5_token_92 : decode cX5_token 92 = .ok (.bipush 97, 2) := by decide +kernel
theorem dX5_token_94 : decode cX5_token 94 = .ok (.bipush 122, 2) := by decide +kernel
theorem dX5_token_96 : decode cX5_token 96 = .ok (.invokestatic 70, 3) := by decide +kernel
theorem dX5_token_99 : decode cX5_token 99 = .ok (.ifCond .eq 107, 3) := by decide +kernel
theorem dX5_token_102 : decode cX5_token 102 = .ok (.aload_n 0, 1) := by decide +kernel
theorem dX5_token_103 : decode cX5_token 103 = .ok (.dup, 1) := by decide +kernel
theorem dX5_token_104 : decode cX5_token 104 = .ok (.getfield 222, 3) := by decide +kernel
theorem dX5_token_107 : decode cX5_token 107 = .ok (.iconst 1, 1) := by decide +kernel
theorem dX5_token_108 : decode cX5_token 108 = .ok (.iadd, 1) := by decide +kernel
theorem dX5_token_109 : decode cX5_token 109 = .ok (.putfield 222, 3) := by decide +kernel
theorem dX5_token_112 : decode cX5_token 112 = .ok (.goto (-28), 3) := by decide +kernel
theorem dX5_token_115 : decode cX5_token 115 = .ok (.iload_n 1, 1) := by decide +kernel
theorem dX5_token_116 : decode cX5_token 116 = .ok (.bipush 48, 2) := by decide +kernel
theorem dX5_token_118 : decode cX5_token 118 = .ok (.bipush 57, 2) := by decide +kernel
theorem dX5_token_120 : decode cX5_token 120 = .ok (.invokestatic 70, 3) := by decide +kernel
theorem dX5_token_123 : decode cX5_token 123 = .ok (.ifCond .eq 68, 3) := by decide +kernel
theorem dX5_token_126 : decode cX5_token 126 = .ok (.aload_n 0, 1) := by decide +kernel
theorem dX5_token_127 : decode cX5_token 127 = .ok (.iconst 2, 1) := by decide +kernel
theorem dX5_token_128 : decode cX5_token 128 = .ok (.putfield 234, 3) := by decide +kernel
theorem dX5_token_131 : decode cX5_token 131 = .ok (.aload_n 0, 1) := by decide +kernel
theorem dX5_token_132 : decode cX5_token 132 = .ok (.aload_n 0, 1) := by decide +kernel
theorem dX5_token_133 : decode cX5_token 133 = .ok (.getfield 222, 3) := by decide +kernel
theorem dX5_token_136 : decode cX5_token 136 = .ok (.invokevirtual 228, 3) := by decide +kernel
theorem dX5_token_139 : decode cX5_token 139 = .ok (.bipush 48, 2) := by decide +kernel
theorem dX5_token_141 : decode cX5_token 141 = .ok (.bipush 57, 2) := by decide +kernel
theorem dX5_token_143 : decode cX5_token 143 = .ok (.invokestatic 70, 3) := by decide +kernel
theorem dX5_token_146 : decode cX5_token 146 = .ok (.ifCond .eq 60, 3) := by decide +kernel
theorem dX5_token_149 : decode cX5_token 149 = .ok (.aload_n 0, 1) := by decide +kernel
theorem dX5_token_150 : decode cX5_token 150 = .ok (.sipush 10000, 3) := by decide +kernel
theorem dX5_token_153 : decode cX5_token 153 = .ok (.bipush 10, 2) := by decide +kernel
theorem dX5_token_155 : decode cX5_token 155 = .ok (.aload_n 0, 1) := by decide +kernel
theorem dX5_token_156 : decode cX5_token 156 = .ok (.getfield 231, 3) := by decide +kernel
theorem dX5_token_159 : decode cX5_token 159 = .ok (.imul, 1) := by decide +kernel
theorem dX5_token_160 : decode cX5_token 160 = .ok (.aload_n 0, 1) := by decide +kernel
theorem dX5_token_161 : decode cX5_token 161 = .ok (.aload_n 0, 1) := by decide +kernel
theorem dX5_token_162 : decode cX5_token 162 = .ok (.getfield 222, 3) := by decide +kernel
theorem dX5_token_165 : decode cX5_token 165 = .ok (.invokevirtual 228, 3) := by decide +kernel
theorem dX5_token_168 : decode cX5_token 168 = .ok (.iadd, 1) := by decide +kernel
theorem dX5_token_169 : decode cX5_token 169 = .ok (.bipush 48, 2) := by decide +kernel
theorem dX5_token_171 : decode cX5_token 171 = .ok (.isub, 1) := by decide +kernel
theorem dX5_token_172 : decode cX5_token 172 = .ok (.invokestatic 144, 3) := by decide +kernel
theorem dX5_token_175 : decode cX5_token 175 = .ok (.putfield 231, 3) := by decide +kernel
theorem dX5_token_178 : decode cX5_token 178 = .ok (.aload_n 0, 1) := by decide +kernel
theorem dX5_token_179 : decode cX5_token 179 = .ok (.dup, 1) := by decide +kernel
theorem dX5_token_180 : decode cX5_token 180 = .ok (.getfield 222, 3) := by decide +kernel
theorem dX5_token_183 : decode cX5_token 183 = .ok (.iconst 1, 1) := by decide +kernel
theorem dX5_token_184 : decode cX5_token 184 = .ok (.iadd, 1) := by decide +kernel
theorem dX5_token_185 : decode cX5_token 185 = .ok (.putfield 222, 3) := by decide +kernel
theorem dX5_token_188 : decode cX5_token 188 = .ok (.goto (-57), 3) := by decide +kernel
theorem dX5_token_191 : decode cX5_token 191 = .ok (.aload_n 0, 1) := by decide +kernel
theorem dX5_token_192 : decode cX5_token 192 = .ok (.iconst 3, 1) := by decide +kernel
theorem dX5_token_193 : decode cX5_token 193 = .ok (.putfield 234, 3) := by decide +kernel
theorem dX5_token_196 : decode cX5_token 196 = .ok (.aload_n 0, 1) := by decide +kernel
theorem dX5_token_197 : decode cX5_token 197 = .ok (.dup, 1) := by decide +kernel
theorem dX5_token_198 : decode cX5_token 198 = .ok (.getfield 222, 3) := by decide +kernel
theorem dX5_token_201 : decode cX5_token 201 = .ok (.iconst 1, 1) := by decide +kernel
theorem dX5_token_202 : decode cX5_token 202 = .ok (.iadd, 1) := by decide +kernel
theorem dX5_token_203 : decode cX5_token 203 = .ok (.putfield 222, 3) := by decide +kernel
theorem dX5_token_206 : decode cX5_token 206 = .ok (.return_, 1) := by decide +kernel
theorem dX5_isWord_0 : decode cX5_isWord 0 = .ok (.aload_n 0, 1) := by decide +kernel
theorem dX5_isWord_1 : decode cX5_isWord 1 = .ok (.getfield 234, 3) := by decide +kernel
theorem dX5_isWord_4 : decode cX5_isWord 4 = .ok (.iconst 1, 1) := by decide +kernel
theorem dX5_isWord_5 : decode cX5_isWord 5 = .ok (.if_icmp .ne 23, 3) := by decide +kernel
theorem dX5_isWord_8 : decode cX5_isWord 8 = .ok (.aload_n 0, 1) := by decide +kernel
theorem dX5_isWord_9 : decode cX5_isWord 9 = .ok (.getfield 222, 3) := by decide +kernel
theorem dX5_isWord_12 : decode cX5_isWord 12 = .ok (.aload_n 0, 1) := by decide +kernel
theorem dX5_isWord_13 : decode cX5_isWord 13 = .ok (.getfield 225, 3) := by decide +kernel
theorem dX5_isWord_16 : decode cX5_isWord 16 = .ok (.isub, 1) := by decide +kernel
theorem dX5_isWord_17 : decode cX5_isWord 17 = .ok (.aload_n 1, 1) := by decide +kernel
theorem dX5_isWord_18 : decode cX5_isWord 18 = .ok (.invokevirtual 237, 3) := by decide +kernel
theorem dX5_isWord_21 : decode cX5_isWord 21 = .ok (.if_icmp .ne 7, 3) := by decide +kernel
theorem dX5_isWord_24 : decode cX5_isWord 24 = .ok (.iconst 1, 1) := by decide +kernel
theorem dX5_isWord_25 : decode cX5_isWord 25 = .ok (.goto 4, 3) := by decide +kernel
theorem dX5_isWord_28 : decode cX5_isWord 28 = .ok (.iconst 0, 1) := by decide +kernel
theorem dX5_isWord_29 : decode cX5_isWord 29 = .ok (.istore_n 2, 1) := by decide +kernel
theorem dX5_isWord_30 : decode cX5_isWord 30 = .ok (.iconst 0, 1) := by decide +kernel
theorem dX5_isWord_31 : decode cX5_isWord 31 = .ok (.istore_n 3, 1) := by decide +kernel
theorem dX5_isWord_32 : decode cX5_isWord 32 = .ok (.iload_n 3, 1) := by decide +kernel
theorem dX5_isWord_33 : decode cX5_isWord 33 = .ok (.aload_n 1, 1) := by decide +kernel
theorem dX5_isWord_34 : decode cX5_isWord 34 = .ok (.invokevirtual 237, 3) := by decide +kernel
theorem dX5_isWord_37 : decode cX5_isWord 37 = .ok (.if_icmp .ge 38, 3) := by decide +kernel
theorem dX5_isWord_40 : decode cX5_isWord 40 = .ok (.iload_n 2, 1) := by decide +kernel
theorem dX5_isWord_41 : decode cX5_isWord 41 = .ok (.ifCond .eq 34, 3) := by decide +kernel
theorem dX5_isWord_44 : decode cX5_isWord 44 = .ok (.aload_n 0, 1) := by decide +kernel
theorem dX5_isWord_45 : decode cX5_isWord 45 = .ok (.getfield 22, 3) := by decide +kernel
theorem dX5_isWord_48 : decode cX5_isWord 48 = .ok (.aload_n 0, 1) := by decide +kernel
theorem dX5_isWord_49 : decode cX5_isWord 49 = .ok (.getfield 225, 3) := by decide +kernel
theorem dX5_isWord_52 : decode cX5_isWord 52 = .ok (.iload_n 3, 1) := by decide +kernel
theorem dX5_isWord_53 : decode cX5_isWord 53 = .ok (.iadd, 1) := by decide +kernel
theorem dX5_isWord_54 : decode cX5_isWord 54 = .ok (.iaload, 1) := by decide +kernel
theorem dX5_isWord_55 : decode cX5_isWord 55 = .ok (.aload_n 1, 1) := by decide +kernel
theorem dX5_isWord_56 : decode cX5_isWord 56 = .ok (.iload_n 3, 1) := by decide +kernel
theorem dX5_isWord_57 : decode cX5_isWord 57 = .ok (.invokevirtual 240, 3) := by decide +kernel
theorem dX5_isWord_60 : decode cX5_isWord 60 = .ok (.if_icmp .ne 7, 3) := by decide +kernel
theorem dX5_isWord_63 : decode cX5_isWord 63 = .ok (.iconst 1, 1) := by decide +kernel
theorem dX5_isWord_64 : decode cX5_isWord 64 = .ok (.goto 4, 3) := by decide +kernel
theorem dX5_isWord_67 : decode cX5_isWord 67 = .ok (.iconst 0, 1) := by decide +kernel
theorem dX5_isWord_68 : decode cX5_isWord 68 = .ok (.istore_n 2, 1) := by decide +kernel
theorem dX5_isWord_69 : decode cX5_isWord 69 = .ok (.iinc 3 1, 3) := by decide +kernel
theorem dX5_isWord_72 : decode cX5_isWord 72 = .ok (.goto (-40), 3) := by decide +kernel
theorem dX5_isWord_75 : decode cX5_isWord 75 = .ok (.iload_n 2, 1) := by decide +kernel
theorem dX5_isWord_76 : decode cX5_isWord 76 = .ok (.ireturn, 1) := by decide +kernel
theorem dX5_must_0 : decode cX5_must 0 = .ok (.aload_n 0, 1) := by decide +kernel
theorem dX5_must_1 : decode cX5_must 1 = .ok (.aload_n 0, 1) := by decide +kernel
theorem dX5_must_2 : decode cX5_must 2 = .ok (.getfield 244, 3) := by decide +kernel
theorem dX5_must_5 : decode cX5_must 5 = .ok (.ifCond .ne 7, 3) := by decide +kernel
theorem dX5_must_8 : decode cX5_must 8 = .ok (.iload_n 1, 1) := by decide +kernel
theorem dX5_must_9 : decode cX5_must 9 = .ok (.ifCond .ne 7, 3) := by decide +kernel
theorem dX5_must_12 : decode cX5_must 12 = .ok (.iconst 1, 1) := by decide +kernel
theorem dX5_must_13 : decode cX5_must 13 = .ok (.goto 4, 3) := by decide +kernel
theorem dX5_must_16 : decode cX5_must 16 = .ok (.iconst 0, 1) := by decide +kernel
theorem dX5_must_17 : decode cX5_must 17 = .ok (.putfield 244, 3) := by decide +kernel
theorem dX5_must_20 : decode cX5_must 20 = .ok (.aload_n 0, 1) := by decide +kernel
theorem dX5_must_21 : decode cX5_must 21 = .ok (.getfield 244, 3) := by decide +kernel
theorem dX5_must_24 : decode cX5_must 24 = .ok (.ifCond .ne 7, 3) := by decide +kernel
theorem dX5_must_27 : decode cX5_must 27 = .ok (.aload_n 0, 1) := by decide +kernel
theorem dX5_must_28 : decode cX5_must 28 = .ok (.invokevirtual 248, 3) := by decide +kernel
theorem dX5_must_31 : decode cX5_must 31 = .ok (.return_, 1) := by decide +kernel
theorem dX5_number_0 : decode cX5_number 0 = .ok (.aload_n 0, 1) := by decide +kernel
theorem dX5_number_1 : decode cX5_number 1 = .ok (.getfield 231, 3) := by decide +kernel
theorem dX5_number_4 : decode cX5_number 4 = .ok (.istore_n 3, 1) := by decide +kernel
theorem dX5_number_5 : decode cX5_number 5 = .ok (.aload_n 0, 1) := by decide +kernel
theorem dX5_number_6 : decode cX5_number 6 = .ok (.aload_n 0, 1) := by decide +kernel
theorem dX5_number_7 : decode cX5_number 7 = .ok (.getfield 234, 3) := by decide +kernel
theorem dX5_number_10 : decode cX5_number 10 = .ok (.iconst 2, 1) := by decide +kernel
theorem dX5_number_11 : decode cX5_number 11 = .ok (.if_icmp .ne 16, 3) := by decide +kernel
theorem dX5_number_14 : decode cX5_number 14 = .ok (.iload_n 3, 1) := by decide +kernel
theorem dX5_number_15 : decode cX5_number 15 = .ok (.iload_n 1, 1) := by decide +kernel
theorem dX5_number_16 : decode cX5_number 16 = .ok (.iload_n 2, 1) := by decide +kernel
theorem dX5_number_17 : decode cX5_number 17 = .ok (.invokestatic 70, 3) := by decide +kernel
theorem dX5_number_20 : decode cX5_number 20 = .ok (.ifCond .eq 7, 3) := by decide +kernel
theorem dX5_number_23 : decode cX5_number 23 = .ok (.iconst 1, 1) := by decide +kernel
theorem dX5_number_24 : decode cX5_number 24 = .ok (.goto 4, 3) := by decide +kernel
theorem dX5_number_27 : decode cX5_number 27 = .ok (.iconst 0, 1) := by decide +kernel
theorem dX5_number_28 : decode cX5_number 28 = .ok (.invokevirtual 251, 3) := by decide +kernel
theorem dX5_number_31 : decode cX5_number 31 = .ok (.iload_n 3, 1) := by decide +kernel
theorem dX5_number_32 : decode cX5_number 32 = .ok (.ireturn, 1) := by decide +kernel
theorem dX5_addItem_0 : decode cX5_addItem 0 = .ok (.iconst 4, 1) := by decide +kernel
theorem dX5_addItem_1 : decode cX5_addItem 1 = .ok (.aload_n 0, 1) := by decide +kernel
theorem dX5_addItem_2 : decode cX5_addItem 2 = .ok (.getfield 255, 3) := by decide +kernel
theorem dX5_addItem_5 : decode cX5_addItem 5 = .ok (.imul, 1) := by decide +kernel
theorem dX5_addItem_6 : decode cX5_addItem 6 = .ok (.istore 5, 2) := by decide +kernel
theorem dX5_addItem_8 : decode cX5_addItem 8 = .ok (.aload_n 0, 1) := by decide +kernel
theorem dX5_addItem_9 : decode cX5_addItem 9 = .ok (.getfield 45, 3) := by decide +kernel
theorem dX5_addItem_12 : decode cX5_addItem 12 = .ok (.iload 5, 2) := by decide +kernel
theorem dX5_addItem_14 : decode cX5_addItem 14 = .ok (.iload_n 1, 1) := by decide +kernel
theorem dX5_addItem_15 : decode cX5_addItem 15 = .ok (.iastore, 1) := by decide +kernel
theorem dX5_addItem_16 : decode cX5_addItem 16 = .ok (.aload_n 0, 1) := by decide +kernel
theorem dX5_addItem_17 : decode cX5_addItem 17 = .ok (.getfield 45, 3) := by decide +kernel
theorem dX5_addItem_20 : decode cX5_addItem 20 = .ok (.iload 5, 2) := by decide +kernel
theorem dX5_addItem_22 : decode cX5_addItem 22 = .ok (.iconst 1, 1) := by decide +kernel
theorem dX5_addItem_23 : decode cX5_addItem 23 = .ok (.iadd, 1) := by decide +kernel
theorem dX5_addItem_24 : decode cX5_addItem 24 = .ok (.iload_n 2, 1) := by decide +kernel
theorem dX5_addItem_25 : decode cX5_addItem 25 = .ok (.iastore, 1) := by decide +kernel
theorem dX5_addItem_26 : decode cX5_addItem 26 = .ok (.aload_n 0, 1) := by decide +kernel
theorem dX5_addItem_27 : decode cX5_addItem 27 = .ok (.getfield 45, 3) := by decide +kernel
theorem dX5_addItem_30 : decode cX5_addItem 30 = .ok (.iload 5, 2) := by decide +kernel
theorem dX5_addItem_32 : decode cX5_addItem 32 = .ok (.iconst 2, 1) := by decide +kernel
theorem dX5_addItem_33 : decode cX5_addItem 33 = .ok (.iadd, 1) := by decide +kernel
theorem dX5_addItem_34 : decode cX5_addItem 34 = .ok (.iload_n 3, 1) := by decide +kernel
theorem dX5_addItem_35 : decode cX5_addItem 35 = .ok (.iastore, 1) := by decide +kernel
theorem dX5_addItem_36 : decode cX5_addItem 36 = .ok (.aload_n 0, 1) := by decide +kernel
theorem dX5_addItem_37 : decode cX5_addItem 37 = .ok (.getfield 45, 3) := by decide +kernel
theorem dX5_addItem_40 : decode cX5_addItem 40 = .ok (.iload 5, 2) := by decide +kernel
theorem dX5_addItem_42 : decode cX5_addItem 42 = .ok (.iconst 3, 1) := by decide +kernel
theorem dX5_addItem_43 : decode cX5_addItem 43 = .ok (.iadd, 1) := by decide +kernel
theorem dX5_addItem_44 : decode cX5_addItem 44 = .ok (.iload 4, 2) := by decide +kernel
theorem dX5_addItem_46 : decode cX5_addItem 46 = .ok (.iastore, 1) := by decide +kernel
theorem dX5_addItem_47 : decode cX5_addItem 47 = .ok (.aload_n 0, 1) := by decide +kernel
theorem dX5_addItem_48 : decode cX5_addItem 48 = .ok (.dup, 1) := by decide +kernel
theorem dX5_addItem_49 : decode cX5_addItem 49 = .ok (.getfield 255, 3) := by decide +kernel
theorem dX5_addItem_52 : decode cX5_addItem 52 = .ok (.iconst 1, 1) := by decide +kernel
theorem dX5_addItem_53 : decode cX5_addItem 53 = .ok (.iadd, 1) := by decide +kernel
theorem dX5_addItem_54 : decode cX5_addItem 54 = .ok (.putfield 255, 3) := by decide +kernel
theorem dX5_addItem_57 : decode cX5_addItem 57 = .ok (.return_, 1) := by decide +kernel
theorem dX5_takesWord_0 : decode cX5_takesWord 0 = .ok (.aload_n 0, 1) := by decide +kernel
theorem dX5_takesWord_1 : decode cX5_takesWord 1 = .ok (.getfield 244, 3) := by decide +kernel
theorem dX5_takesWord_4 : decode cX5_takesWord 4 = .ok (.ifCond .ne 15, 3) := by decide +kernel
theorem dX5_takesWord_7 : decode cX5_takesWord 7 = .ok (.aload_n 0, 1) := by decide +kernel
theorem dX5_takesWord_8 : decode cX5_takesWord 8 = .ok (.aload_n 1, 1) := by decide +kernel
theorem dX5_takesWord_9 : decode cX5_takesWord 9 = .ok (.invokevirtual 258, 3) := by decide +kernel
theorem dX5_takesWord_12 : decode cX5_takesWord 12 = .ok (.ifCond .eq 7, 3) := by decide +kernel
theorem dX5_takesWord_15 : decode cX5_takesWord 15 = .ok (.iconst 1, 1) := by decide +kernel
theorem dX5_takesWord_16 : decode cX5_takesWord 16 = .ok (.goto 4, 3) := by decide +kernel
theorem dX5_takesWord_19 : decode cX5_takesWord 19 = .ok (.iconst 0, 1) := by decide +kernel
theorem dX5_takesWord_20 : decode cX5_takesWord 20 = .ok (.istore_n 2, 1) := by decide +kernel
theorem dX5_takesWord_21 : decode cX5_takesWord 21 = .ok (.iload_n 2, 1) := by decide +kernel
theorem dX5_takesWord_22 : decode cX5_takesWord 22 = .ok (.ifCond .eq 8, 3) := by decide +kernel
theorem dX5_takesWord_25 : decode cX5_takesWord 25 = .ok (.aload_n 0, 1) := by decide +kernel
theorem dX5_takesWord_26 : decode cX5_takesWord 26 = .ok (.iconst 1, 1) := by decide +kernel
theorem dX5_takesWord_27 : decode cX5_takesWord 27 = .ok (.invokevirtual 251, 3) := by decide +kernel
theorem dX5_takesWord_30 : decode cX5_takesWord 30 = .ok (.iload_n 2, 1) := by decide +kernel
theorem dX5_takesWord_31 : decode cX5_takesWord 31 = .ok (.ireturn, 1) := by decide +kernel
theorem dX5_readGuest_0 : decode cX5_readGuest 0 = .ok (.aload_n 0, 1) := by decide +kernel
theorem dX5_readGuest_1 : decode cX5_readGuest 1 = .ok (.aload_n 0, 1) := by decide +kernel
theorem dX5_readGuest_2 : decode cX5_readGuest 2 = .ok (.getfield 262, 3) := by decide +kernel
theorem dX5_readGuest_5 : decode cX5_readGuest 5 = .ok (.bipush 8, 2) := by decide +kernel
theorem dX5_readGuest_7 : decode cX5_readGuest 7 = .ok (.if_icmp .ge 7, 3) := by decide +kernel
theorem dX5_readGuest_10 : decode cX5_readGuest 10 = .ok (.iconst 1, 1) := by decide +kernel
theorem dX5_readGuest_11 : decode cX5_readGuest 11 = .ok (.goto 4, 3) := by decide +kernel
theorem dX5_readGuest_14 : decode cX5_readGuest 14 = .ok (.iconst 0, 1) := by decide +kernel
theorem dX5_readGuest_15 : decode cX5_readGuest 15 = .ok (.invokevirtual 251, 3) := by decide +kernel
theorem dX5_readGuest_18 : decode cX5_readGuest 18 = .ok (.aload_n 0, 1) := by decide +kernel
theorem dX5_readGuest_19 : decode cX5_readGuest 19 = .ok (.ldc_w 265, 3) := by decide +kernel
theorem dX5_readGuest_22 : decode cX5_readGuest 22 = .ok (.invokevirtual 267, 3) := by decide +kernel
theorem dX5_readGuest_25 : decode cX5_readGuest 25 = .ok (.ifCond .eq 13, 3) := by decide +kernel
theorem dX5_readGuest_28 : decode cX5_readGuest 28 = .ok (.aload_n 0, 1) := by decide +kernel
theorem dX5_readGuest_29 : decode cX5_readGuest 29 = .ok (.iconst 0, 1) := by decide +kernel
theorem dX5_readGuest_30 : decode cX5_readGuest 30 = .ok (.bipush 15, 2) := by decide +kernel
theorem dX5_readGuest_32 : decode cX5_readGuest 32 = .ok (.invokevirtual 270, 3) := by decide +kernel
theorem dX5_readGuest_35 : decode cX5_readGuest 35 = .ok (.goto 4, 3) := by decide +kernel
theorem dX5_readGuest_38 : decode cX5_readGuest 38 = .ok (.iconst 0, 1) := by decide +kernel
theorem dX5_readGuest_39 : decode cX5_readGuest 39 = .ok (.istore_n 2, 1) := by decide +kernel
theorem dX5_readGuest_40 : decode cX5_readGuest 40 = .ok (.aload_n 0, 1) := by decide +kernel
theorem dX5_readGuest_41 : decode cX5_readGuest 41 = .ok (.ldc_w 273, 3) := by decide +kernel
theorem dX5_readGuest_44 : decode cX5_readGuest 44 = .ok (.invokevirtual 267, 3) := by decide +kernel
theorem dX5_readGuest_47 : decode cX5_readGuest 47 = .ok (.ifCond .eq 13, 3) := by decide +kernel
theorem dX5_readGuest_50 : decode cX5_readGuest 50 = .ok (.aload_n 0, 1) := by decide +kernel
theorem dX5_readGuest_51 : decode cX5_readGuest 51 = .ok (.iconst 1, 1) := by decide +kernel
theorem dX5_readGuest_52 : decode cX5_readGuest 52 = .ok (.bipush 40, 2) := by decide +kernel
theorem dX5_readGuest_54 : decode cX5_readGuest 54 = .ok (.invokevirtual 270, 3) := by decide +kernel
theorem dX5_readGuest_57 : decode cX5_readGuest 57 = .ok (.goto 5, 3) := by decide +kernel
theorem dX5_readGuest_60 : decode cX5_readGuest 60 = .ok (.bipush 10, 2) := by decide +kernel
theorem dX5_readGuest_62 : decode cX5_readGuest 62 = .ok (.istore_n 3, 1) := by decide +kernel
theorem dX5_readGuest_63 : decode cX5_readGuest 63 = .ok (.aload_n 0, 1) := by decide +kernel
theorem dX5_readGuest_64 : decode cX5_readGuest 64 = .ok (.iload_n 1, 1) := by decide +kernel
theorem dX5_readGuest_65 : decode cX5_readGuest 65 = .ok (.iload_n 2, 1) := by decide +kernel
theorem dX5_readGuest_66 : decode cX5_readGuest 66 = .ok (.iload_n 3, 1) := by decide +kernel
theorem dX5_readGuest_67 : decode cX5_readGuest 67 = .ok (.aload_n 0, 1) := by decide +kernel
theorem dX5_readGuest_68 : decode cX5_readGuest 68 = .ok (.ldc_w 275, 3) := by decide +kernel
theorem dX5_readGuest_71 : decode cX5_readGuest 71 = .ok (.invokevirtual 267, 3) := by decide +kernel
theorem dX5_readGuest_74 : decode cX5_readGuest 74 = .ok (.ifCond .eq 13, 3) := by decide +kernel
theorem dX5_readGuest_77 : decode cX5_readGuest 77 = .ok (.aload_n 0, 1) := by decide +kernel
theorem dX5_readGuest_78 : decode cX5_readGuest 78 = .ok (.iconst 0, 1) := by decide +kernel
theorem dX5_readGuest_79 : decode cX5_readGuest 79 = .ok (.bipush 15, 2) := by decide +kernel
theorem dX5_readGuest_81 : decode cX5_readGuest 81 = .ok (.invokevirtual 270, 3) := by decide +kernel
theorem dX5_readGuest_84 : decode cX5_readGuest 84 = .ok (.goto 4, 3) := by decide +kernel
theorem dX5_readGuest_87 : decode cX5_readGuest 87 = .ok (.iload_n 2, 1) := by decide +kernel
theorem dX5_readGuest_88 : decode cX5_readGuest 88 = .ok (.invokevirtual 277, 3) := by decide +kernel
theorem dX5_readGuest_91 : decode cX5_readGuest 91 = .ok (.aload_n 0, 1) := by decide +kernel
theorem dX5_readGuest_92 : decode cX5_readGuest 92 = .ok (.dup, 1) := by decide +kernel
theorem dX5_readGuest_93 : decode cX5_readGuest 93 = .ok (.getfield 262, 3) := by decide +kernel
theorem dX5_readGuest_96 : decode cX5_readGuest 96 = .ok (.iconst 1, 1) := by decide +kernel
theorem dX5_readGuest_97 : decode cX5_readGuest 97 = .ok (.iadd, 1) := by decide +kernel
theorem dX5_readGuest_98 : decode cX5_readGuest 98 = .ok (.putfield 262, 3) := by decide +kernel
theorem dX5_readGuest_101 : decode cX5_readGuest 101 = .ok (.return_, 1) := by decide +kernel
theorem dX5_readItem_0 : decode cX5_readItem 0 = .ok (.iconst (-1), 1) := by decide +kernel
theorem dX5_readItem_1 : decode cX5_readItem 1 = .ok (.istore_n 1, 1) := by decide +kernel
theorem dX5_readItem_2 : decode cX5_readItem 2 = .ok (.iconst 0, 1) := by decide +kernel
theorem dX5_readItem_3 : decode cX5_readItem 3 = .ok (.istore_n 2, 1) := by decide +kernel
theorem dX5_readItem_4 : decode cX5_readItem 4 = .ok (.iload_n 2, 1) := by decide +kernel
theorem dX5_readItem_5 : decode cX5_readItem 5 = .ok (.aload_n 0, 1) := by decide +kernel
theorem dX5_readItem_6 : decode cX5_readItem 6 = .ok (.getfield 41, 3) := by decide +kernel
theorem dX5_readItem_9 : decode cX5_readItem 9 = .ok (.arraylength, 1) := by decide +kernel
theorem dX5_readItem_10 : decode cX5_readItem 10 = .ok (.if_icmp .ge 28, 3) := by decide +kernel
theorem dX5_readItem_13 : decode cX5_readItem 13 = .ok (.aload_n 0, 1) := by decide +kernel
theorem dX5_readItem_14 : decode cX5_readItem 14 = .ok (.aload_n 0, 1) := by decide +kernel
theorem dX5_readItem_15 : decode cX5_readItem 15 = .ok (.getfield 41, 3) := by decide +kernel
theorem dX5_readItem_18 : decode cX5_readItem 18 = .ok (.iload_n 2, 1) := by decide +kernel
theorem dX5_readItem_19 : decode cX5_readItem 19 = .ok (.aaload, 1) := by decide +kernel
theorem dX5_readItem_20 : decode cX5_readItem 20 = .ok (.invokevirtual 258, 3) := by decide +kernel
theorem dX5_readItem_23 : decode cX5_readItem 23 = .ok (.ifCond .eq 7, 3) := by decide +kernel
theorem dX5_readItem_26 : decode cX5_readItem 26 = .ok (.iload_n 2, 1) := by decide +kernel
theorem dX5_readItem_27 : decode cX5_readItem 27 = .ok (.goto 4, 3) := by decide +kernel
theorem dX5_readItem_30 : decode cX5_readItem 30 = .ok (.iload_n 1, 1) := by decide +kernel
theorem dX5_readItem_31 : decode cX5_readItem 31 = .ok (.istore_n 1, 1) := by decide +kernel
theorem dX5_readItem_32 : decode cX5_readItem 32 = .ok (.iinc 2 1, 3) := by decide +kernel
theorem dX5_readItem_35 : decode cX5_readItem 35 = .ok (.goto (-31), 3) := by decide +kernel
theorem dX5_readItem_38 : decode cX5_readItem 38 = .ok (.iload_n 1, 1) := by decide +kernel
theorem dX5_readItem_39 : decode cX5_readItem 39 = .ok (.ifCond .lt 11, 3) := by decide +kernel
theorem dX5_readItem_42 : decode cX5_readItem 42 = .ok (.aload_n 0, 1) := by decide +kernel
theorem dX5_readItem_43 : decode cX5_readItem 43 = .ok (.iload_n 1, 1) := by decide +kernel
theorem dX5_readItem_44 : decode cX5_readItem 44 = .ok (.invokevirtual 281, 3) := by decide +kernel
theorem dX5_readItem_47 : decode cX5_readItem 47 = .ok (.goto 109, 3) := by decide +kernel
theorem dX5_readItem_50 : decode cX5_readItem 50 = .ok (.aload_n 0, 1) := by decide +kernel
theorem dX5_readItem_51 : decode cX5_readItem 51 = .ok (.ldc_w 284, 3) := by decide +kernel
theorem dX5_readItem_54 : decode cX5_readItem 54 = .ok (.invokevirtual 267, 3) := by decide +kernel
theorem dX5_readItem_57 : decode cX5_readItem 57 = .ok (.ifCond .eq 29, 3) := by decide +kernel
theorem dX5_readItem_60 : decode cX5_readItem 60 = .ok (.aload_n 0, 1) := by decide +kernel
theorem dX5_readItem_61 : decode cX5_readItem 61 = .ok (.iconst 0, 1) := by decide +kernel
theorem dX5_readItem_62 : decode cX5_readItem 62 = .ok (.bipush 15, 2) := by decide +kernel
theorem dX5_readItem_64 : decode cX5_readItem 64 = .ok (.invokevirtual 270, 3) := by decide +kernel
theorem dX5_readItem_67 : decode cX5_readItem 67 = .ok (.istore_n 2, 1) := by decide +kernel
theorem dX5_readItem_68 : decode cX5_readItem 68 = .ok (.aload_n 0, 1) := by decide +kernel
theorem dX5_readItem_69 : decode cX5_readItem 69 = .ok (.bipush 10, 2) := by decide +kernel
theorem dX5_readItem_71 : decode cX5_readItem 71 = .ok (.iload_n 2, 1) := by decide +kernel
theorem dX5_readItem_72 : decode cX5_readItem 72 = .ok (.aload_n 0, 1) := by decide +kernel
theorem dX5_readItem_73 : decode cX5_readItem 73 = .ok (.iconst 0, 1) := by decide +kernel
theorem dX5_readItem_74 : decode cX5_readItem 74 = .ok (.bipush 40, 2) := by decide +kernel
theorem dX5_readItem_76 : decode cX5_readItem 76 = .ok (.invokevirtual 270, 3) := by decide +kernel
theorem dX5_readItem_79 : decode cX5_readItem 79 = .ok (.iconst 0, 1) := by decide +kernel
theorem dX5_readItem_80 : decode cX5_readItem 80 = .ok (.invokevirtual 277, 3) := by decide +kernel
theorem dX5_readItem_83 : decode cX5_readItem 83 = .ok (.goto 73, 3) := by decide +kernel
theorem dX5_readItem_86 : decode cX5_readItem 86 = .ok (.aload_n 0, 1) := by decide +kernel
theorem dX5_readItem_87 : decode cX5_readItem 87 = .ok (.ldc_w 286, 3) := by decide +kernel
theorem dX5_readItem_90 : decode cX5_readItem 90 = .ok (.invokevirtual 267, 3) := by decide +kernel
theorem dX5_readItem_93 : decode cX5_readItem 93 = .ok (.ifCond .eq 29, 3) := by decide +kernel
theorem dX5_readItem_96 : decode cX5_readItem 96 = .ok (.aload_n 0, 1) := by decide +kernel
theorem dX5_readItem_97 : decode cX5_readItem 97 = .ok (.iconst 0, 1) := by decide +kernel
theorem dX5_readItem_98 : decode cX5_readItem 98 = .ok (.iconst 5, 1) := by decide +kernel
theorem dX5_readItem_99 : decode cX5_readItem 99 = .ok (.invokevirtual 270, 3) := by decide +kernel
theorem dX5_readItem_102 : decode cX5_readItem 102 = .ok (.istore_n 2, 1) := by decide +kernel
theorem dX5_readItem_103 : decode cX5_readItem 103 = .ok (.aload_n 0, 1) := by decide +kernel
theorem dX5_readItem_104 : decode cX5_readItem 104 = .ok (.bipush 11, 2) := by decide +kernel
theorem dX5_readItem_106 : decode cX5_readItem 106 = .ok (.iload_n 2, 1) := by decide +kernel
theorem dX5_readItem_107 : decode cX5_readItem 107 = .ok (.aload_n 0, 1) := by decide +kernel
theorem dX5_readItem_108 : decode cX5_readItem 108 = .ok (.bipush 16, 2) := by decide +kernel
theorem dX5_readItem_110 : decode cX5_readItem 110 = .ok (.bipush 36, 2) := by decide +kernel
theorem dX5_readItem_112 : decode cX5_readItem 112 = .ok (.invokevirtual 270, 3) := by decide +kernel
theorem dX5_readItem_115 : decode cX5_readItem 115 = .ok (.iconst 0, 1) := by decide +kernel
theorem dX5_readItem_116 : decode cX5_readItem 116 = .ok (.invokevirtual 277, 3) := by decide +kernel
theorem dX5_readItem_119 : decode cX5_readItem 119 = .ok (.goto 37, 3) := by decide +kernel
theorem dX5_readItem_122 : decode cX5_readItem 122 = .ok (.aload_n 0, 1) := by decide +kernel
theorem dX5_readItem_123 : decode cX5_readItem 123 = .ok (.ldc_w 288, 3) := by decide +kernel
theorem dX5_readItem_126 : decode cX5_readItem 126 = .ok (.invokevirtual 267, 3) := by decide +kernel
theorem dX5_readItem_129 : decode cX5_readItem 129 = .ok (.ifCond .eq 22, 3) := by decide +kernel
theorem dX5_readItem_132 : decode cX5_readItem 132 = .ok (.aload_n 0, 1) := by decide +kernel
theorem dX5_readItem_133 : decode cX5_readItem 133 = .ok (.bipush 12, 2) := by decide +kernel
theorem dX5_readItem_135 : decode cX5_readItem 135 = .ok (.aload_n 0, 1) := by decide +kernel
theorem dX5_readItem_136 : decode cX5_readItem 136 = .ok (.iconst 0, 1) := by decide +kernel
theorem dX5_readItem_137 : decode cX5_readItem 137 = .ok (.sipush 999, 3) := by decide +kernel
theorem dX5_readItem_140 : decode cX5_readItem 140 = .ok (.invokevirtual 270, 3) := by decide +kernel
theorem dX5_readItem_143 : decode cX5_readItem 143 = .ok (.iconst 0, 1) := by decide +kernel
theorem dX5_readItem_144 : decode cX5_readItem 144 = .ok (.iconst 0, 1) := by decide +kernel
theorem dX5_readItem_145 : decode cX5_readItem 145 = .ok (.invokevirtual 277, 3) := by decide +kernel
theorem dX5_readItem_148 : decode cX5_readItem 148 = .ok (.goto 8, 3) := by decide +kernel
theorem dX5_readItem_151 : decode cX5_readItem 151 = .ok (.aload_n 0, 1) := by decide +kernel
theorem dX5_readItem_152 : decode cX5_readItem 152 = .ok (.iconst 0, 1) := by decide +kernel
theorem dX5_readItem_153 : decode cX5_readItem 153 = .ok (.invokevirtual 251, 3) := by decide +kernel
theorem dX5_readItem_156 : decode cX5_readItem 156 = .ok (.return_, 1) := by decide +kernel
theorem dX5_isToldSo_0 : decode cX5_isToldSo 0 = .ok (.aload_n 0, 1) := by decide +kernel
theorem dX5_isToldSo_1 : decode cX5_isToldSo 1 = .ok (.getfield 45, 3) := by decide +kernel
theorem dX5_isToldSo_4 : decode cX5_isToldSo 4 = .ok (.iload_n 1, 1) := by decide +kernel
theorem dX5_isToldSo_5 : decode cX5_isToldSo 5 = .ok (.iconst 1, 1) := by decide +kernel
theorem dX5_isToldSo_6 : decode cX5_isToldSo 6 = .ok (.iadd, 1) := by decide +kernel
theorem dX5_isToldSo_7 : decode cX5_isToldSo 7 = .ok (.iaload, 1) := by decide +kernel
theorem dX5_isToldSo_8 : decode cX5_isToldSo 8 = .ok (.istore_n 2, 1) := by decide +kernel
theorem dX5_isToldSo_9 : decode cX5_isToldSo 9 = .ok (.aload_n 0, 1) := by decide +kernel
theorem dX5_isToldSo_10 : decode cX5_isToldSo 10 = .ok (.getfield 45, 3) := by decide +kernel
theorem dX5_isToldSo_13 : decode cX5_isToldSo 13 = .ok (.iload_n 1, 1) := by decide +kernel
theorem dX5_isToldSo_14 : decode cX5_isToldSo 14 = .ok (.iconst 2, 1) := by decide +kernel
theorem dX5_isToldSo_15 : decode cX5_isToldSo 15 = .ok (.iadd, 1) := by decide +kernel
theorem dX5_isToldSo_16 : decode cX5_isToldSo 16 = .ok (.iaload, 1) := by decide +kernel
theorem dX5_isToldSo_17 : decode cX5_isToldSo 17 = .ok (.istore_n 3, 1) := by decide +kernel
theorem dX5_isToldSo_18 : decode cX5_isToldSo 18 = .ok (.aload_n 0, 1) := by decide +kernel
theorem dX5_isToldSo_19 : decode cX5_isToldSo 19 = .ok (.getfield 45, 3) := by decide +kernel
theorem dX5_isToldSo_22 : decode cX5_isToldSo 22 = .ok (.iload_n 1, 1) := by decide +kernel
theorem dX5_isToldSo_23 : decode cX5_isToldSo 23 = .ok (.iaload, 1) := by decide +kernel
theorem dX5_isToldSo_24 : decode cX5_isToldSo 24 = .ok (.tableswitch 64 10 12 #[28, 41, 54], 28) := by decide +kernel
theorem dX5_isToldSo_52 : decode cX5_isToldSo 52 = .ok (.aload_n 0, 1) := by decide +kernel
theorem dX5_isToldSo_53 : decode cX5_isToldSo 53 = .ok (.getfield 9, 3) := by decide +kernel
theorem dX5_isToldSo_56 : decode cX5_isToldSo 56 = .ok (.bipush 12, 2) := by decide +kernel
theorem dX5_isToldSo_58 : decode cX5_isToldSo 58 = .ok (.iload_n 2, 1) := by decide +kernel
theorem dX5_isToldSo_59 : decode cX5_isToldSo 59 = .ok (.iadd, 1) := by decide +kernel
theorem dX5_isToldSo_60 : decode cX5_isToldSo 60 = .ok (.iload_n 3, 1) := by decide +kernel
theorem dX5_isToldSo_61 : decode cX5_isToldSo 61 = .ok (.iastore, 1) := by decide +kernel
theorem dX5_isToldSo_62 : decode cX5_isToldSo 62 = .ok (.goto 70, 3) := by decide +kernel
theorem dX5_isToldSo_65 : decode cX5_isToldSo 65 = .ok (.aload_n 0, 1) := by decide +kernel
theorem dX5_isToldSo_66 : decode cX5_isToldSo 66 = .ok (.getfield 9, 3) := by decide +kernel
theorem dX5_isToldSo_69 : decode cX5_isToldSo 69 = .ok (.bipush 6, 2) := by decide +kernel
theorem dX5_isToldSo_71 : decode cX5_isToldSo 71 = .ok (.iload_n 2, 1) := by decide +kernel
theorem dX5_isToldSo_72 : decode cX5_isToldSo 72 = .ok (.iadd, 1) := by decide +kernel
theorem dX5_isToldSo_73 : decode cX5_isToldSo 73 = .ok (.iload_n 3, 1) := by decide +kernel
theorem dX5_isToldSo_74 : decode cX5_isToldSo 74 = .ok (.iastore, 1) := by decide +kernel
theorem dX5_isToldSo_75 : decode cX5_isToldSo 75 = .ok (.goto 57, 3) := by decide +kernel
theorem dX5_isToldSo_78 : decode cX5_isToldSo 78 = .ok (.aload_n 0, 1) := by decide +kernel
theorem dX5_isToldSo_79 : decode cX5_isToldSo 79 = .ok (.getfield 9, 3) := by decide +kernel
theorem dX5_isToldSo_82 : decode cX5_isToldSo 82 = .ok (.iconst 3, 1) := by decide +kernel
theorem dX5_isToldSo_83 : decode cX5_isToldSo 83 = .ok (.iload_n 2, 1) := by decide +kernel
theorem dX5_isToldSo_84 : decode cX5_isToldSo 84 = .ok (.iastore, 1) := by decide +kernel
theorem dX5_isToldSo_85 : decode cX5_isToldSo 85 = .ok (.goto 47, 3) := by decide +kernel
theorem dX5_isToldSo_88 : decode cX5_isToldSo 88 = .ok (.aload_n 0, 1) := by decide +kernel
theorem dX5_isToldSo_89 : decode cX5_isToldSo 89 = .ok (.aload_n 0, 1) := by decide +kernel
theorem dX5_isToldSo_90 : decode cX5_isToldSo 90 = .ok (.getfield 45, 3) := by decide +kernel
theorem dX5_isToldSo_93 : decode cX5_isToldSo 93 = .ok (.iload_n 1, 1) := by decide +kernel
theorem dX5_isToldSo_94 : decode cX5_isToldSo 94 = .ok (.iaload, 1) := by decide +kernel
theorem dX5_isToldSo_95 : decode cX5_isToldSo 95 = .ok (.iload_n 2, 1) := by decide +kernel
theorem dX5_isToldSo_96 : decode cX5_isToldSo 96 = .ok (.invokevirtual 113, 3) := by decide +kernel
theorem dX5_isToldSo_99 : decode cX5_isToldSo 99 = .ok (.istore 4, 2) := by decide +kernel
theorem dX5_isToldSo_101 : decode cX5_isToldSo 101 = .ok (.aload_n 0, 1) := by decide +kernel
theorem dX5_isToldSo_102 : decode cX5_isToldSo 102 = .ok (.getfield 9, 3) := by decide +kernel
theorem dX5_isToldSo_105 : decode cX5_isToldSo 105 = .ok (.iload 4, 2) := by decide +kernel
theorem dX5_isToldSo_107 : decode cX5_isToldSo 107 = .ok (.iconst 2, 1) := by decide +kernel
theorem dX5_isToldSo_108 : decode cX5_isToldSo 108 = .ok (.invokestatic 106, 3) := by decide +kernel
theorem dX5_isToldSo_111 : decode cX5_isToldSo 111 = .ok (.iload_n 3, 1) := by decide +kernel
theorem dX5_isToldSo_112 : decode cX5_isToldSo 112 = .ok (.iastore, 1) := by decide +kernel
theorem dX5_isToldSo_113 : decode cX5_isToldSo 113 = .ok (.aload_n 0, 1) := by decide +kernel
theorem dX5_isToldSo_114 : decode cX5_isToldSo 114 = .ok (.getfield 9, 3) := by decide +kernel
theorem dX5_isToldSo_117 : decode cX5_isToldSo 117 = .ok (.iload 4, 2) := by decide +kernel
theorem dX5_isToldSo_119 : decode cX5_isToldSo 119 = .ok (.iconst 3, 1) := by decide +kernel
theorem dX5_isToldSo_120 : decode cX5_isToldSo 120 = .ok (.invokestatic 106, 3) := by decide +kernel
theorem dX5_isToldSo_123 : decode cX5_isToldSo 123 = .ok (.aload_n 0, 1) := by decide +kernel
theorem dX5_isToldSo_124 : decode cX5_isToldSo 124 = .ok (.getfield 45, 3) := by decide +kernel
theorem dX5_isToldSo_127 : decode cX5_isToldSo 127 = .ok (.iload_n 1, 1) := by decide +kernel
theorem dX5_isToldSo_128 : decode cX5_isToldSo 128 = .ok (.iconst 3, 1) := by decide +kernel
theorem dX5_isToldSo_129 : decode cX5_isToldSo 129 = .ok (.iadd, 1) := by decide +kernel
theorem dX5_isToldSo_130 : decode cX5_isToldSo 130 = .ok (.iaload, 1) := by decide +kernel
theorem dX5_isToldSo_131 : decode cX5_isToldSo 131 = .ok (.iastore, 1) := by decide +kernel
theorem dX5_isToldSo_132 : decode cX5_isToldSo 132 = .ok (.return_, 1) := by decide +kernel
theorem dX5_text_0 : decode cX5_text 0 = .ok (.aload_n 0, 1) := by decide +kernel
theorem dX5_text_1 : decode cX5_text 1 = .ok (.iconst 0, 1) := by decide +kernel
theorem dX5_text_2 : decode cX5_text 2 = .ok (.putfield 222, 3) := by decide +kernel
theorem dX5_text_5 : decode cX5_text 5 = .ok (.aload_n 0, 1) := by decide +kernel
theorem dX5_text_6 : decode cX5_text 6 = .ok (.iconst 0, 1) := by decide +kernel
theorem dX5_text_7 : decode cX5_text 7 = .ok (.putfield 244, 3) := by decide +kernel
theorem dX5_text_10 : decode cX5_text 10 = .ok (.aload_n 0, 1) := by decide +kernel
theorem dX5_text_11 : decode cX5_text 11 = .ok (.iconst 0, 1) := by decide +kernel
theorem dX5_text_12 : decode cX5_text 12 = .ok (.putfield 255, 3) := by decide +kernel
theorem dX5_text_15 : decode cX5_text 15 = .ok (.aload_n 0, 1) := by decide +kernel
theorem dX5_text_16 : decode cX5_text 16 = .ok (.aload_n 0, 1) := by decide +kernel
theorem dX5_text_17 : decode cX5_text 17 = .ok (.getfield 9, 3) := by decide +kernel
theorem dX5_text_20 : decode cX5_text 20 = .ok (.iconst 1, 1) := by decide +kernel
theorem dX5_text_21 : decode cX5_text 21 = .ok (.iaload, 1) := by decide +kernel
theorem dX5_text_22 : decode cX5_text 22 = .ok (.putfield 262, 3) := by decide +kernel
theorem dX5_text_25 : decode cX5_text 25 = .ok (.aload_n 0, 1) := by decide +kernel
theorem dX5_text_26 : decode cX5_text 26 = .ok (.invokevirtual 248, 3) := by decide +kernel
theorem dX5_text_29 : decode cX5_text 29 = .ok (.aload_n 0, 1) := by decide +kernel
theorem dX5_text_30 : decode cX5_text 30 = .ok (.invokevirtual 290, 3) := by decide +kernel
theorem dX5_text_33 : decode cX5_text 33 = .ok (.aload_n 0, 1) := by decide +kernel
theorem dX5_text_34 : decode cX5_text 34 = .ok (.getfield 244, 3) := by decide +kernel
theorem dX5_text_37 : decode cX5_text 37 = .ok (.ifCond .ne 37, 3) := by decide +kernel
theorem dX5_text_40 : decode cX5_text 40 = .ok (.aload_n 0, 1) := by decide +kernel
theorem dX5_text_41 : decode cX5_text 41 = .ok (.getfield 234, 3) := by decide +kernel
theorem dX5_text_44 : decode cX5_text 44 = .ok (.iconst 3, 1) := by decide +kernel
theorem dX5_text_45 : decode cX5_text 45 = .ok (.if_icmp .ne 29, 3) := by decide +kernel
theorem dX5_text_48 : decode cX5_text 48 = .ok (.aload_n 0, 1) := by decide +kernel
theorem dX5_text_49 : decode cX5_text 49 = .ok (.getfield 22, 3) := by decide +kernel
theorem dX5_text_52 : decode cX5_text 52 = .ok (.aload_n 0, 1) := by decide +kernel
theorem dX5_text_53 : decode cX5_text 53 = .ok (.getfield 225, 3) := by decide +kernel
theorem dX5_text_56 : decode cX5_text 56 = .ok (.iaload, 1) := by decide +kernel
theorem dX5_text_57 : decode cX5_text 57 = .ok (.bipush 59, 2) := by decide +kernel
theorem dX5_text_59 : decode cX5_text 59 = .ok (.if_icmp .ne 15, 3) := by decide +kernel
theorem dX5_text_62 : decode cX5_text 62 = .ok (.aload_n 0, 1) := by decide +kernel
theorem dX5_text_63 : decode cX5_text 63 = .ok (.iconst 1, 1) := by decide +kernel
theorem dX5_text_64 : decode cX5_text 64 = .ok (.invokevirtual 251, 3) := by decide +kernel
theorem dX5_text_67 : decode cX5_text 67 = .ok (.aload_n 0, 1) := by decide +kernel
theorem dX5_text_68 : decode cX5_text 68 = .ok (.invokevirtual 290, 3) := by decide +kernel
theorem dX5_text_71 : decode cX5_text 71 = .ok (.goto (-38), 3) := by decide +kernel
theorem dX5_text_74 : decode cX5_text 74 = .ok (.aload_n 0, 1) := by decide +kernel
theorem dX5_text_75 : decode cX5_text 75 = .ok (.aload_n 0, 1) := by decide +kernel
theorem dX5_text_76 : decode cX5_text 76 = .ok (.getfield 234, 3) := by decide +kernel
theorem dX5_text_79 : decode cX5_text 79 = .ok (.ifCond .ne 7, 3) := by decide +kernel
theorem dX5_text_82 : decode cX5_text 82 = .ok (.iconst 1, 1) := by decide +kernel
theorem dX5_text_83 : decode cX5_text 83 = .ok (.goto 4, 3) := by decide +kernel
theorem dX5_text_86 : decode cX5_text 86 = .ok (.iconst 0, 1) := by decide +kernel
theorem dX5_text_87 : decode cX5_text 87 = .ok (.invokevirtual 251, 3) := by decide +kernel
theorem dX5_text_90 : decode cX5_text 90 = .ok (.aload_n 0, 1) := by decide +kernel
theorem dX5_text_91 : decode cX5_text 91 = .ok (.iconst 0, 1) := by decide +kernel
theorem dX5_text_92 : decode cX5_text 92 = .ok (.putfield 218, 3) := by decide +kernel
theorem dX5_text_95 : decode cX5_text 95 = .ok (.aload_n 0, 1) := by decide +kernel
theorem dX5_text_96 : decode cX5_text 96 = .ok (.getfield 244, 3) := by decide +kernel
theorem dX5_text_99 : decode cX5_text 99 = .ok (.ifCond .eq 10, 3) := by decide +kernel
theorem dX5_text_102 : decode cX5_text 102 = .ok (.iconst (-1), 1) := by decide +kernel
theorem dX5_text_103 : decode cX5_text 103 = .ok (.aload_n 0, 1) := by decide +kernel
theorem dX5_text_104 : decode cX5_text 104 = .ok (.getfield 225, 3) := by decide +kernel
theorem dX5_text_107 : decode cX5_text 107 = .ok (.isub, 1) := by decide +kernel
theorem dX5_text_108 : decode cX5_text 108 = .ok (.ireturn, 1) := by decide +kernel
theorem dX5_text_109 : decode cX5_text 109 = .ok (.iconst 0, 1) := by decide +kernel
theorem dX5_text_110 : decode cX5_text 110 = .ok (.istore_n 1, 1) := by decide +kernel
theorem dX5_text_111 : decode cX5_text 111 = .ok (.iload_n 1, 1) := by decide +kernel
theorem dX5_text_112 : decode cX5_text 112 = .ok (.aload_n 0, 1) := by decide +kernel
theorem dX5_text_113 : decode cX5_text 113 = .ok (.getfield 255, 3) := by decide +kernel
theorem dX5_text_116 : decode cX5_text 116 = .ok (.if_icmp .ge 16, 3) := by decide +kernel
theorem dX5_text_119 : decode cX5_text 119 = .ok (.aload_n 0, 1) := by decide +kernel
theorem dX5_text_120 : decode cX5_text 120 = .ok (.iconst 4, 1) := by decide +kernel
theorem dX5_text_121 : decode cX5_text 121 = .ok (.iload_n 1, 1) := by decide +kernel
theorem dX5_text_122 : decode cX5_text 122 = .ok (.imul, 1) := by decide +kernel
theorem dX5_text_123 : decode cX5_text 123 = .ok (.invokevirtual 293, 3) := by decide +kernel
theorem dX5_text_126 : decode cX5_text 126 = .ok (.iinc 1 1, 3) := by decide +kernel
theorem dX5_text_129 : decode cX5_text 129 = .ok (.goto (-18), 3) := by decide +kernel
theorem dX5_text_132 : decode cX5_text 132 = .ok (.aload_n 0, 1) := by decide +kernel
theorem dX5_text_133 : decode cX5_text 133 = .ok (.getfield 255, 3) := by decide +kernel
theorem dX5_text_136 : decode cX5_text 136 = .ok (.ireturn, 1) := by decide +kernel
theorem dX5_isSpot_0 : decode cX5_isSpot 0 = .ok (.iload_n 0, 1) := by decide +kernel
theorem dX5_isSpot_1 : decode cX5_isSpot 1 = .ok (.iconst 0, 1) := by decide +kernel
theorem dX5_isSpot_2 : decode cX5_isSpot 2 = .ok (.bipush 9, 2) := by decide +kernel
theorem dX5_isSpot_4 : decode cX5_isSpot 4 = .ok (.invokestatic 70, 3) := by decide +kernel
theorem dX5_isSpot_7 : decode cX5_isSpot 7 = .ok (.ireturn, 1) := by decide +kernel
theorem dX5_hold_0 : decode cX5_hold 0 = .ok (.iload_n 1, 1) := by decide +kernel
theorem dX5_hold_1 : decode cX5_hold 1 = .ok (.invokestatic 296, 3) := by decide +kernel
theorem dX5_hold_4 : decode cX5_hold 4 = .ok (.ifCond .eq 16, 3) := by decide +kernel
theorem dX5_hold_7 : decode cX5_hold 7 = .ok (.iload_n 2, 1) := by decide +kernel
theorem dX5_hold_8 : decode cX5_hold 8 = .ok (.iconst (-1), 1) := by decide +kernel
theorem dX5_hold_9 : decode cX5_hold 9 = .ok (.if_icmp .eq 18, 3) := by decide +kernel
theorem dX5_hold_12 : decode cX5_hold 12 = .ok (.aload_n 0, 1) := by decide +kernel
theorem dX5_hold_13 : decode cX5_hold 13 = .ok (.iload_n 2, 1) := by decide +kernel
theorem dX5_hold_14 : decode cX5_hold 14 = .ok (.invokevirtual 131, 3) := by decide +kernel
theorem dX5_hold_17 : decode cX5_hold 17 = .ok (.ifCond .ne 10, 3) := by decide +kernel
theorem dX5_hold_20 : decode cX5_hold 20 = .ok (.aload_n 0, 1) := by decide +kernel
theorem dX5_hold_21 : decode cX5_hold 21 = .ok (.ldc 60, 2) := by decide +kernel
theorem dX5_hold_23 : decode cX5_hold 23 = .ok (.invokevirtual 66, 3) := by decide +kernel
theorem dX5_hold_26 : decode cX5_hold 26 = .ok (.ireturn, 1) := by decide +kernel
theorem dX5_hold_27 : decode cX5_hold 27 = .ok (.aload_n 0, 1) := by decide +kernel
theorem dX5_hold_28 : decode cX5_hold 28 = .ok (.getfield 9, 3) := by decide +kernel
theorem dX5_hold_31 : decode cX5_hold 31 = .ok (.bipush 28, 2) := by decide +kernel
theorem dX5_hold_33 : decode cX5_hold 33 = .ok (.iload_n 1, 1) := by decide +kernel
theorem dX5_hold_34 : decode cX5_hold 34 = .ok (.iadd, 1) := by decide +kernel
theorem dX5_hold_35 : decode cX5_hold 35 = .ok (.iload_n 2, 1) := by decide +kernel
theorem dX5_hold_36 : decode cX5_hold 36 = .ok (.iastore, 1) := by decide +kernel
theorem dX5_hold_37 : decode cX5_hold 37 = .ok (.iconst 1, 1) := by decide +kernel
theorem dX5_hold_38 : decode cX5_hold 38 = .ok (.ireturn, 1) := by decide +kernel
theorem dX5_as_0 : decode cX5_as 0 = .ok (.iload_n 1, 1) := by decide +kernel
theorem dX5_as_1 : decode cX5_as 1 = .ok (.invokestatic 296, 3) := by decide +kernel
theorem dX5_as_4 : decode cX5_as 4 = .ok (.ifCond .eq 10, 3) := by decide +kernel
theorem dX5_as_7 : decode cX5_as 7 = .ok (.iload_n 2, 1) := by decide +kernel
theorem dX5_as_8 : decode cX5_as 8 = .ok (.invokestatic 109, 3) := by decide +kernel
theorem dX5_as_11 : decode cX5_as 11 = .ok (.ifCond .ne 10, 3) := by decide +kernel
theorem dX5_as_14 : decode cX5_as 14 = .ok (.aload_n 0, 1) := by decide +kernel
theorem dX5_as_15 : decode cX5_as 15 = .ok (.ldc 60, 2) := by decide +kernel
theorem dX5_as_17 : decode cX5_as 17 = .ok (.invokevirtual 66, 3) := by decide +kernel
theorem dX5_as_20 : decode cX5_as 20 = .ok (.ireturn, 1) := by decide +kernel
theorem dX5_as_21 : decode cX5_as 21 = .ok (.aload_n 0, 1) := by decide +kernel
theorem dX5_as_22 : decode cX5_as 22 = .ok (.getfield 9, 3) := by decide +kernel
theorem dX5_as_25 : decode cX5_as 25 = .ok (.bipush 28, 2) := by decide +kernel
theorem dX5_as_27 : decode cX5_as 27 = .ok (.iload_n 1, 1) := by decide +kernel
theorem dX5_as_28 : decode cX5_as 28 = .ok (.iadd, 1) := by decide +kernel
theorem dX5_as_29 : decode cX5_as 29 = .ok (.iaload, 1) := by decide +kernel
theorem dX5_as_30 : decode cX5_as 30 = .ok (.istore_n 3, 1) := by decide +kernel
theorem dX5_as_31 : decode cX5_as 31 = .ok (.iload_n 3, 1) := by decide +kernel
theorem dX5_as_32 : decode cX5_as 32 = .ok (.ifCond .ge 10, 3) := by decide +kernel
theorem dX5_as_35 : decode cX5_as 35 = .ok (.aload_n 0, 1) := by decide +kernel
theorem dX5_as_36 : decode cX5_as 36 = .ok (.ldc 206, 2) := by decide +kernel
theorem dX5_as_38 : decode cX5_as 38 = .ok (.invokevirtual 66, 3) := by decide +kernel
theorem dX5_as_41 : decode cX5_as 41 = .ok (.ireturn, 1) := by decide +kernel
theorem dX5_as_42 : decode cX5_as 42 = .ok (.aload_n 0, 1) := by decide +kernel
theorem dX5_as_43 : decode cX5_as 43 = .ok (.iload_n 3, 1) := by decide +kernel
theorem dX5_as_44 : decode cX5_as 44 = .ok (.iconst 0, 1) := by decide +kernel
theorem dX5_as_45 : decode cX5_as 45 = .ok (.invokevirtual 116, 3) := by decide +kernel
theorem dX5_as_48 : decode cX5_as 48 = .ok (.iload_n 2, 1) := by decide +kernel
theorem dX5_as_49 : decode cX5_as 49 = .ok (.invokestatic 299, 3) := by decide +kernel
theorem dX5_as_52 : decode cX5_as 52 = .ok (.ifCond .eq 7, 3) := by decide +kernel
theorem dX5_as_55 : decode cX5_as 55 = .ok (.iload_n 3, 1) := by decide +kernel
theorem dX5_as_56 : decode cX5_as 56 = .ok (.goto 10, 3) := by decide +kernel
theorem dX5_as_59 : decode cX5_as 59 = .ok (.aload_n 0, 1) := by decide +kernel
theorem dX5_as_60 : decode cX5_as 60 = .ok (.ldc_w 302, 3) := by decide +kernel
theorem dX5_as_63 : decode cX5_as 63 = .ok (.invokevirtual 66, 3) := by decide +kernel
theorem dX5_as_66 : decode cX5_as 66 = .ok (.ireturn, 1) := by decide +kernel
theorem dX5_isSheet_0 : decode cX5_isSheet 0 = .ok (.iload_n 0, 1) := by decide +kernel
theorem dX5_isSheet_1 : decode cX5_isSheet 1 = .ok (.iconst 0, 1) := by decide +kernel
theorem dX5_isSheet_2 : decode cX5_isSheet 2 = .ok (.iconst 3, 1) := by decide +kernel
theorem dX5_isSheet_3 : decode cX5_isSheet 3 = .ok (.invokestatic 70, 3) := by decide +kernel
theorem dX5_isSheet_6 : decode cX5_isSheet 6 = .ok (.ireturn, 1) := by decide +kernel
theorem dX5_cutTo_0 : decode cX5_cutTo 0 = .ok (.iload_n 1, 1) := by decide +kernel
theorem dX5_cutTo_1 : decode cX5_cutTo 1 = .ok (.bipush 8, 2) := by decide +kernel
theorem dX5_cutTo_3 : decode cX5_cutTo 3 = .ok (.if_icmp .ne 8, 3) := by decide +kernel
theorem dX5_cutTo_6 : decode cX5_cutTo 6 = .ok (.iload_n 0, 1) := by decide +kernel
theorem dX5_cutTo_7 : decode cX5_cutTo 7 = .ok (.i2b, 1) := by decide +kernel
theorem dX5_cutTo_8 : decode cX5_cutTo 8 = .ok (.goto 15, 3) := by decide +kernel
theorem dX5_cutTo_11 : decode cX5_cutTo 11 = .ok (.iload_n 1, 1) := by decide +kernel
theorem dX5_cutTo_12 : decode cX5_cutTo 12 = .ok (.bipush 16, 2) := by decide +kernel
theorem dX5_cutTo_14 : decode cX5_cutTo 14 = .ok (.if_icmp .ne 8, 3) := by decide +kernel
theorem dX5_cutTo_17 : decode cX5_cutTo 17 = .ok (.iload_n 0, 1) := by decide +kernel
theorem dX5_cutTo_18 : decode cX5_cutTo 18 = .ok (.i2s, 1) := by decide +kernel
theorem dX5_cutTo_19 : decode cX5_cutTo 19 = .ok (.goto 4, 3) := by decide +kernel
theorem dX5_cutTo_22 : decode cX5_cutTo 22 = .ok (.iload_n 0, 1) := by decide +kernel
theorem dX5_cutTo_23 : decode cX5_cutTo 23 = .ok (.ireturn, 1) := by decide +kernel
theorem dX5_sheet_0 : decode cX5_sheet 0 = .ok (.iload_n 1, 1) := by decide +kernel
theorem dX5_sheet_1 : decode cX5_sheet 1 = .ok (.invokestatic 203, 3) := by decide +kernel
theorem dX5_sheet_4 : decode cX5_sheet 4 = .ok (.ifCond .eq 25, 3) := by decide +kernel
theorem dX5_sheet_7 : decode cX5_sheet 7 = .ok (.iload_n 2, 1) := by decide +kernel
theorem dX5_sheet_8 : decode cX5_sheet 8 = .ok (.ifCond .eq 28, 3) := by decide +kernel
theorem dX5_sheet_11 : decode cX5_sheet 11 = .ok (.iload_n 2, 1) := by decide +kernel
theorem dX5_sheet_12 : decode cX5_sheet 12 = .ok (.bipush 8, 2) := by decide +kernel
theorem dX5_sheet_14 : decode cX5_sheet 14 = .ok (.if_icmp .eq 22, 3) := by decide +kernel
theorem dX5_sheet_17 : decode cX5_sheet 17 = .ok (.iload_n 2, 1) := by decide +kernel
theorem dX5_sheet_18 : decode cX5_sheet 18 = .ok (.bipush 16, 2) := by decide +kernel
theorem dX5_sheet_20 : decode cX5_sheet 20 = .ok (.if_icmp .eq 16, 3) := by decide +kernel
theorem dX5_sheet_23 : decode cX5_sheet 23 = .ok (.iload_n 2, 1) := by decide +kernel
theorem dX5_sheet_24 : decode cX5_sheet 24 = .ok (.bipush 32, 2) := by decide +kernel
theorem dX5_sheet_26 : decode cX5_sheet 26 = .ok (.if_icmp .eq 10, 3) := by decide +kernel
theorem dX5_sheet_29 : decode cX5_sheet 29 = .ok (.aload_n 0, 1) := by decide +kernel
theorem dX5_sheet_30 : decode cX5_sheet 30 = .ok (.ldc 60, 2) := by decide +kernel
theorem dX5_sheet_32 : decode cX5_sheet 32 = .ok (.invokevirtual 66, 3) := by decide +kernel
theorem dX5_sheet_35 : decode cX5_sheet 35 = .ok (.ireturn, 1) := by decide +kernel
theorem dX5_sheet_36 : decode cX5_sheet 36 = .ok (.iload_n 3, 1) := by decide +kernel
theorem dX5_sheet_37 : decode cX5_sheet 37 = .ok (.ifCond .ge 11, 3) := by decide +kernel
theorem dX5_sheet_40 : decode cX5_sheet 40 = .ok (.aload_n 0, 1) := by decide +kernel
theorem dX5_sheet_41 : decode cX5_sheet 41 = .ok (.ldc_w 303, 3) := by decide +kernel
theorem dX5_sheet_44 : decode cX5_sheet 44 = .ok (.invokevirtual 66, 3) := by decide +kernel
theorem dX5_sheet_47 : decode cX5_sheet 47 = .ok (.ireturn, 1) := by decide +kernel
theorem dX5_sheet_48 : decode cX5_sheet 48 = .ok (.iload_n 3, 1) := by decide +kernel
theorem dX5_sheet_49 : decode cX5_sheet 49 = .ok (.bipush 40, 2) := by decide +kernel
theorem dX5_sheet_51 : decode cX5_sheet 51 = .ok (.if_icmp .le 10, 3) := by decide +kernel
theorem dX5_sheet_54 : decode cX5_sheet 54 = .ok (.aload_n 0, 1) := by decide +kernel
theorem dX5_sheet_55 : decode cX5_sheet 55 = .ok (.ldc 60, 2) := by decide +kernel
theorem dX5_sheet_57 : decode cX5_sheet 57 = .ok (.invokevirtual 66, 3) := by decide +kernel
theorem dX5_sheet_60 : decode cX5_sheet 60 = .ok (.ireturn, 1) := by decide +kernel
theorem dX5_sheet_61 : decode cX5_sheet 61 = .ok (.aload_n 0, 1) := by decide +kernel
theorem dX5_sheet_62 : decode cX5_sheet 62 = .ok (.getfield 48, 3) := by decide +kernel
theorem dX5_sheet_65 : decode cX5_sheet 65 = .ok (.iload_n 1, 1) := by decide +kernel
theorem dX5_sheet_66 : decode cX5_sheet 66 = .ok (.iload_n 2, 1) := by decide +kernel
theorem dX5_sheet_67 : decode cX5_sheet 67 = .ok (.iastore, 1) := by decide +kernel
theorem dX5_sheet_68 : decode cX5_sheet 68 = .ok (.aload_n 0, 1) := by decide +kernel
theorem dX5_sheet_69 : decode cX5_sheet 69 = .ok (.getfield 51, 3) := by decide +kernel
theorem dX5_sheet_72 : decode cX5_sheet 72 = .ok (.iload_n 1, 1) := by decide +kernel
theorem dX5_sheet_73 : decode cX5_sheet 73 = .ok (.iload_n 2, 1) := by decide +kernel
theorem dX5_sheet_74 : decode cX5_sheet 74 = .ok (.ifCond .ne 7, 3) := by decide +kernel
theorem dX5_sheet_77 : decode cX5_sheet 77 = .ok (.iconst 0, 1) := by decide +kernel
theorem dX5_sheet_78 : decode cX5_sheet 78 = .ok (.goto 4, 3) := by decide +kernel
theorem dX5_sheet_81 : decode cX5_sheet 81 = .ok (.iload_n 3, 1) := by decide +kernel
theorem dX5_sheet_82 : decode cX5_sheet 82 = .ok (.iastore, 1) := by decide +kernel
theorem dX5_sheet_83 : decode cX5_sheet 83 = .ok (.iconst 0, 1) := by decide +kernel
theorem dX5_sheet_84 : decode cX5_sheet 84 = .ok (.istore 4, 2) := by decide +kernel
theorem dX5_sheet_86 : decode cX5_sheet 86 = .ok (.iload 4, 2) := by decide +kernel
theorem dX5_sheet_88 : decode cX5_sheet 88 = .ok (.bipush 40, 2) := by decide +kernel
theorem dX5_sheet_90 : decode cX5_sheet 90 = .ok (.if_icmp .ge 22, 3) := by decide +kernel
theorem dX5_sheet_93 : decode cX5_sheet 93 = .ok (.aload_n 0, 1) := by decide +kernel
theorem dX5_sheet_94 : decode cX5_sheet 94 = .ok (.getfield 54, 3) := by decide +kernel
theorem dX5_sheet_97 : decode cX5_sheet 97 = .ok (.bipush 40, 2) := by decide +kernel
theorem dX5_sheet_99 : decode cX5_sheet 99 = .ok (.iload_n 1, 1) := by decide +kernel
theorem dX5_sheet_100 : decode cX5_sheet 100 = .ok (.imul, 1) := by decide +kernel
theorem dX5_sheet_101 : decode cX5_sheet 101 = .ok (.iload 4, 2) := by decide +kernel
theorem dX5_sheet_103 : decode cX5_sheet 103 = .ok (.iadd, 1) := by decide +kernel
theorem dX5_sheet_104 : decode cX5_sheet 104 = .ok (.iconst 0, 1) := by decide +kernel
theorem dX5_sheet_105 : decode cX5_sheet 105 = .ok (.iastore, 1) := by decide +kernel
theorem dX5_sheet_106 : decode cX5_sheet 106 = .ok (.iinc 4 1, 3) := by decide +kernel
theorem dX5_sheet_109 : decode cX5_sheet 109 = .ok (.goto (-23), 3) := by decide +kernel
theorem dX5_sheet_112 : decode cX5_sheet 112 = .ok (.aload_n 0, 1) := by decide +kernel
theorem dX5_sheet_113 : decode cX5_sheet 113 = .ok (.getfield 51, 3) := by decide +kernel
theorem dX5_sheet_116 : decode cX5_sheet 116 = .ok (.iload_n 1, 1) := by decide +kernel
theorem dX5_sheet_117 : decode cX5_sheet 117 = .ok (.iaload, 1) := by decide +kernel
theorem dX5_sheet_118 : decode cX5_sheet 118 = .ok (.ireturn, 1) := by decide +kernel
theorem dX5_write_0 : decode cX5_write 0 = .ok (.iload_n 1, 1) := by decide +kernel
theorem dX5_write_1 : decode cX5_write 1 = .ok (.invokestatic 203, 3) := by decide +kernel
theorem dX5_write_4 : decode cX5_write 4 = .ok (.ifCond .ne 10, 3) := by decide +kernel
theorem dX5_write_7 : decode cX5_write 7 = .ok (.aload_n 0, 1) := by decide +kernel
theorem dX5_write_8 : decode cX5_write 8 = .ok (.ldc 60, 2) := by decide +kernel
end
section
theorem dX5_write_10 : decode cX5_write 10 = .ok (.invokevirtual 66, 3) := by decide +kernel
theorem dX5_write_13 : decode cX5_write 13 = .ok (.ireturn, 1) := by decide +kernel
theorem dX5_write_14 : decode cX5_write 14 = .ok (.aload_n 0, 1) := by decide +kernel
theorem dX5_write_15 : decode cX5_write 15 = .ok (.getfield 48, 3) := by decide +kernel
theorem dX5_write_18 : decode cX5_write 18 = .ok (.iload_n 1, 1) := by decide +kernel
theorem dX5_write_19 : decode cX5_write 19 = .ok (.iaload, 1) := by decide +kernel
theorem dX5_write_20 : decode cX5_write 20 = .ok (.ifCond .ne 10, 3) := by decide +kernel
theorem dX5_write_23 : decode cX5_write 23 = .ok (.aload_n 0, 1) := by decide +kernel
theorem dX5_write_24 : decode cX5_write 24 = .ok (.ldc 206, 2) := by decide +kernel
theorem dX5_write_26 : decode cX5_write 26 = .ok (.invokevirtual 66, 3) := by decide +kernel
theorem dX5_write_29 : decode cX5_write 29 = .ok (.ireturn, 1) := by decide +kernel
theorem dX5_write_30 : decode cX5_write 30 = .ok (.iload_n 2, 1) := by decide +kernel
theorem dX5_write_31 : decode cX5_write 31 = .ok (.iconst 0, 1) := by decide +kernel
theorem dX5_write_32 : decode cX5_write 32 = .ok (.aload_n 0, 1) := by decide +kernel
theorem dX5_write_33 : decode cX5_write 33 = .ok (.getfield 51, 3) := by decide +kernel
theorem dX5_write_36 : decode cX5_write 36 = .ok (.iload_n 1, 1) := by decide +kernel
theorem dX5_write_37 : decode cX5_write 37 = .ok (.iaload, 1) := by decide +kernel
theorem dX5_write_38 : decode cX5_write 38 = .ok (.iconst 1, 1) := by decide +kernel
theorem dX5_write_39 : decode cX5_write 39 = .ok (.isub, 1) := by decide +kernel
theorem dX5_write_40 : decode cX5_write 40 = .ok (.invokestatic 70, 3) := by decide +kernel
theorem dX5_write_43 : decode cX5_write 43 = .ok (.ifCond .ne 10, 3) := by decide +kernel
theorem dX5_write_46 : decode cX5_write 46 = .ok (.aload_n 0, 1) := by decide +kernel
theorem dX5_write_47 : decode cX5_write 47 = .ok (.ldc 60, 2) := by decide +kernel
theorem dX5_write_49 : decode cX5_write 49 = .ok (.invokevirtual 66, 3) := by decide +kernel
theorem dX5_write_52 : decode cX5_write 52 = .ok (.ireturn, 1) := by decide +kernel
theorem dX5_write_53 : decode cX5_write 53 = .ok (.aload_n 0, 1) := by decide +kernel
theorem dX5_write_54 : decode cX5_write 54 = .ok (.getfield 54, 3) := by decide +kernel
theorem dX5_write_57 : decode cX5_write 57 = .ok (.bipush 40, 2) := by decide +kernel
theorem dX5_write_59 : decode cX5_write 59 = .ok (.iload_n 1, 1) := by decide +kernel
theorem dX5_write_60 : decode cX5_write 60 = .ok (.imul, 1) := by decide +kernel
theorem dX5_write_61 : decode cX5_write 61 = .ok (.iload_n 2, 1) := by decide +kernel
theorem dX5_write_62 : decode cX5_write 62 = .ok (.iadd, 1) := by decide +kernel
theorem dX5_write_63 : decode cX5_write 63 = .ok (.iload_n 3, 1) := by decide +kernel
theorem dX5_write_64 : decode cX5_write 64 = .ok (.aload_n 0, 1) := by decide +kernel
theorem dX5_write_65 : decode cX5_write 65 = .ok (.getfield 48, 3) := by decide +kernel
theorem dX5_write_68 : decode cX5_write 68 = .ok (.iload_n 1, 1) := by decide +kernel
theorem dX5_write_69 : decode cX5_write 69 = .ok (.iaload, 1) := by decide +kernel
theorem dX5_write_70 : decode cX5_write 70 = .ok (.invokestatic 304, 3) := by decide +kernel
theorem dX5_write_73 : decode cX5_write 73 = .ok (.iastore, 1) := by decide +kernel
theorem dX5_write_74 : decode cX5_write 74 = .ok (.iconst 1, 1) := by decide +kernel
theorem dX5_write_75 : decode cX5_write 75 = .ok (.ireturn, 1) := by decide +kernel
theorem dX5_copy_0 : decode cX5_copy 0 = .ok (.iload_n 1, 1) := by decide +kernel
theorem dX5_copy_1 : decode cX5_copy 1 = .ok (.invokestatic 203, 3) := by decide +kernel
theorem dX5_copy_4 : decode cX5_copy 4 = .ok (.ifCond .eq 10, 3) := by decide +kernel
theorem dX5_copy_7 : decode cX5_copy 7 = .ok (.iload_n 3, 1) := by decide +kernel
theorem dX5_copy_8 : decode cX5_copy 8 = .ok (.invokestatic 203, 3) := by decide +kernel
theorem dX5_copy_11 : decode cX5_copy 11 = .ok (.ifCond .ne 10, 3) := by decide +kernel
theorem dX5_copy_14 : decode cX5_copy 14 = .ok (.aload_n 0, 1) := by decide +kernel
theorem dX5_copy_15 : decode cX5_copy 15 = .ok (.ldc 60, 2) := by decide +kernel
theorem dX5_copy_17 : decode cX5_copy 17 = .ok (.invokevirtual 66, 3) := by decide +kernel
theorem dX5_copy_20 : decode cX5_copy 20 = .ok (.ireturn, 1) := by decide +kernel
theorem dX5_copy_21 : decode cX5_copy 21 = .ok (.aload_n 0, 1) := by decide +kernel
theorem dX5_copy_22 : decode cX5_copy 22 = .ok (.getfield 48, 3) := by decide +kernel
theorem dX5_copy_25 : decode cX5_copy 25 = .ok (.iload_n 1, 1) := by decide +kernel
theorem dX5_copy_26 : decode cX5_copy 26 = .ok (.iaload, 1) := by decide +kernel
theorem dX5_copy_27 : decode cX5_copy 27 = .ok (.ifCond .eq 12, 3) := by decide +kernel
theorem dX5_copy_30 : decode cX5_copy 30 = .ok (.aload_n 0, 1) := by decide +kernel
theorem dX5_copy_31 : decode cX5_copy 31 = .ok (.getfield 48, 3) := by decide +kernel
theorem dX5_copy_34 : decode cX5_copy 34 = .ok (.iload_n 3, 1) := by decide +kernel
theorem dX5_copy_35 : decode cX5_copy 35 = .ok (.iaload, 1) := by decide +kernel
theorem dX5_copy_36 : decode cX5_copy 36 = .ok (.ifCond .ne 10, 3) := by decide +kernel
theorem dX5_copy_39 : decode cX5_copy 39 = .ok (.aload_n 0, 1) := by decide +kernel
theorem dX5_copy_40 : decode cX5_copy 40 = .ok (.ldc 206, 2) := by decide +kernel
theorem dX5_copy_42 : decode cX5_copy 42 = .ok (.invokevirtual 66, 3) := by decide +kernel
theorem dX5_copy_45 : decode cX5_copy 45 = .ok (.ireturn, 1) := by decide +kernel
theorem dX5_copy_46 : decode cX5_copy 46 = .ok (.aload_n 0, 1) := by decide +kernel
theorem dX5_copy_47 : decode cX5_copy 47 = .ok (.getfield 48, 3) := by decide +kernel
theorem dX5_copy_50 : decode cX5_copy 50 = .ok (.iload_n 1, 1) := by decide +kernel
theorem dX5_copy_51 : decode cX5_copy 51 = .ok (.iaload, 1) := by decide +kernel
theorem dX5_copy_52 : decode cX5_copy 52 = .ok (.aload_n 0, 1) := by decide +kernel
theorem dX5_copy_53 : decode cX5_copy 53 = .ok (.getfield 48, 3) := by decide +kernel
theorem dX5_copy_56 : decode cX5_copy 56 = .ok (.iload_n 3, 1) := by decide +kernel
theorem dX5_copy_57 : decode cX5_copy 57 = .ok (.iaload, 1) := by decide +kernel
theorem dX5_copy_58 : decode cX5_copy 58 = .ok (.if_icmp .eq 11, 3) := by decide +kernel
theorem dX5_copy_61 : decode cX5_copy 61 = .ok (.aload_n 0, 1) := by decide +kernel
theorem dX5_copy_62 : decode cX5_copy 62 = .ok (.ldc_w 302, 3) := by decide +kernel
theorem dX5_copy_65 : decode cX5_copy 65 = .ok (.invokevirtual 66, 3) := by decide +kernel
theorem dX5_copy_68 : decode cX5_copy 68 = .ok (.ireturn, 1) := by decide +kernel
theorem dX5_copy_69 : decode cX5_copy 69 = .ok (.iload_n 2, 1) := by decide +kernel
theorem dX5_copy_70 : decode cX5_copy 70 = .ok (.ifCond .lt 48, 3) := by decide +kernel
theorem dX5_copy_73 : decode cX5_copy 73 = .ok (.iload 4, 2) := by decide +kernel
theorem dX5_copy_75 : decode cX5_copy 75 = .ok (.ifCond .lt 43, 3) := by decide +kernel
theorem dX5_copy_78 : decode cX5_copy 78 = .ok (.iload 5, 2) := by decide +kernel
theorem dX5_copy_80 : decode cX5_copy 80 = .ok (.ifCond .lt 38, 3) := by decide +kernel
theorem dX5_copy_83 : decode cX5_copy 83 = .ok (.iload_n 2, 1) := by decide +kernel
theorem dX5_copy_84 : decode cX5_copy 84 = .ok (.i2l, 1) := by decide +kernel
theorem dX5_copy_85 : decode cX5_copy 85 = .ok (.iload 5, 2) := by decide +kernel
theorem dX5_copy_87 : decode cX5_copy 87 = .ok (.i2l, 1) := by decide +kernel
theorem dX5_copy_88 : decode cX5_copy 88 = .ok (.ladd, 1) := by decide +kernel
theorem dX5_copy_89 : decode cX5_copy 89 = .ok (.aload_n 0, 1) := by decide +kernel
theorem dX5_copy_90 : decode cX5_copy 90 = .ok (.getfield 51, 3) := by decide +kernel
theorem dX5_copy_93 : decode cX5_copy 93 = .ok (.iload_n 1, 1) := by decide +kernel
theorem dX5_copy_94 : decode cX5_copy 94 = .ok (.iaload, 1) := by decide +kernel
theorem dX5_copy_95 : decode cX5_copy 95 = .ok (.i2l, 1) := by decide +kernel
theorem dX5_copy_96 : decode cX5_copy 96 = .ok (.lcmp, 1) := by decide +kernel
theorem dX5_copy_97 : decode cX5_copy 97 = .ok (.ifCond .gt 21, 3) := by decide +kernel
theorem dX5_copy_100 : decode cX5_copy 100 = .ok (.iload 4, 2) := by decide +kernel
theorem dX5_copy_102 : decode cX5_copy 102 = .ok (.i2l, 1) := by decide +kernel
theorem dX5_copy_103 : decode cX5_copy 103 = .ok (.iload 5, 2) := by decide +kernel
theorem dX5_copy_105 : decode cX5_copy 105 = .ok (.i2l, 1) := by decide +kernel
theorem dX5_copy_106 : decode cX5_copy 106 = .ok (.ladd, 1) := by decide +kernel
theorem dX5_copy_107 : decode cX5_copy 107 = .ok (.aload_n 0, 1) := by decide +kernel
theorem dX5_copy_108 : decode cX5_copy 108 = .ok (.getfield 51, 3) := by decide +kernel
theorem dX5_copy_111 : decode cX5_copy 111 = .ok (.iload_n 3, 1) := by decide +kernel
theorem dX5_copy_112 : decode cX5_copy 112 = .ok (.iaload, 1) := by decide +kernel
theorem dX5_copy_113 : decode cX5_copy 113 = .ok (.i2l, 1) := by decide +kernel
theorem dX5_copy_114 : decode cX5_copy 114 = .ok (.lcmp, 1) := by decide +kernel
theorem dX5_copy_115 : decode cX5_copy 115 = .ok (.ifCond .le 10, 3) := by decide +kernel
theorem dX5_copy_118 : decode cX5_copy 118 = .ok (.aload_n 0, 1) := by decide +kernel
theorem dX5_copy_119 : decode cX5_copy 119 = .ok (.ldc 60, 2) := by decide +kernel
theorem dX5_copy_121 : decode cX5_copy 121 = .ok (.invokevirtual 66, 3) := by decide +kernel
theorem dX5_copy_124 : decode cX5_copy 124 = .ok (.ireturn, 1) := by decide +kernel
theorem dX5_copy_125 : decode cX5_copy 125 = .ok (.iconst 0, 1) := by decide +kernel
theorem dX5_copy_126 : decode cX5_copy 126 = .ok (.istore 6, 2) := by decide +kernel
theorem dX5_copy_128 : decode cX5_copy 128 = .ok (.iload 6, 2) := by decide +kernel
theorem dX5_copy_130 : decode cX5_copy 130 = .ok (.iload 5, 2) := by decide +kernel
theorem dX5_copy_132 : decode cX5_copy 132 = .ok (.if_icmp .ge 30, 3) := by decide +kernel
theorem dX5_copy_135 : decode cX5_copy 135 = .ok (.aload_n 0, 1) := by decide +kernel
theorem dX5_copy_136 : decode cX5_copy 136 = .ok (.getfield 57, 3) := by decide +kernel
theorem dX5_copy_139 : decode cX5_copy 139 = .ok (.iload 6, 2) := by decide +kernel
theorem dX5_copy_141 : decode cX5_copy 141 = .ok (.aload_n 0, 1) := by decide +kernel
theorem dX5_copy_142 : decode cX5_copy 142 = .ok (.getfield 54, 3) := by decide +kernel
theorem dX5_copy_145 : decode cX5_copy 145 = .ok (.bipush 40, 2) := by decide +kernel
theorem dX5_copy_147 : decode cX5_copy 147 = .ok (.iload_n 1, 1) := by decide +kernel
theorem dX5_copy_148 : decode cX5_copy 148 = .ok (.imul, 1) := by decide +kernel
theorem dX5_copy_149 : decode cX5_copy 149 = .ok (.iload_n 2, 1) := by decide +kernel
theorem dX5_copy_150 : decode cX5_copy 150 = .ok (.iadd, 1) := by decide +kernel
theorem dX5_copy_151 : decode cX5_copy 151 = .ok (.iload 6, 2) := by decide +kernel
theorem dX5_copy_153 : decode cX5_copy 153 = .ok (.iadd, 1) := by decide +kernel
theorem dX5_copy_154 : decode cX5_copy 154 = .ok (.iaload, 1) := by decide +kernel
theorem dX5_copy_155 : decode cX5_copy 155 = .ok (.iastore, 1) := by decide +kernel
theorem dX5_copy_156 : decode cX5_copy 156 = .ok (.iinc 6 1, 3) := by decide +kernel
theorem dX5_copy_159 : decode cX5_copy 159 = .ok (.goto (-31), 3) := by decide +kernel
theorem dX5_copy_162 : decode cX5_copy 162 = .ok (.iconst 0, 1) := by decide +kernel
theorem dX5_copy_163 : decode cX5_copy 163 = .ok (.istore 6, 2) := by decide +kernel
theorem dX5_copy_165 : decode cX5_copy 165 = .ok (.iload 6, 2) := by decide +kernel
theorem dX5_copy_167 : decode cX5_copy 167 = .ok (.iload 5, 2) := by decide +kernel
theorem dX5_copy_169 : decode cX5_copy 169 = .ok (.if_icmp .ge 31, 3) := by decide +kernel
theorem dX5_copy_172 : decode cX5_copy 172 = .ok (.aload_n 0, 1) := by decide +kernel
theorem dX5_copy_173 : decode cX5_copy 173 = .ok (.getfield 54, 3) := by decide +kernel
theorem dX5_copy_176 : decode cX5_copy 176 = .ok (.bipush 40, 2) := by decide +kernel
theorem dX5_copy_178 : decode cX5_copy 178 = .ok (.iload_n 3, 1) := by decide +kernel
theorem dX5_copy_179 : decode cX5_copy 179 = .ok (.imul, 1) := by decide +kernel
theorem dX5_copy_180 : decode cX5_copy 180 = .ok (.iload 4, 2) := by decide +kernel
theorem dX5_copy_182 : decode cX5_copy 182 = .ok (.iadd, 1) := by decide +kernel
theorem dX5_copy_183 : decode cX5_copy 183 = .ok (.iload 6, 2) := by decide +kernel
theorem dX5_copy_185 : decode cX5_copy 185 = .ok (.iadd, 1) := by decide +kernel
theorem dX5_copy_186 : decode cX5_copy 186 = .ok (.aload_n 0, 1) := by decide +kernel
theorem dX5_copy_187 : decode cX5_copy 187 = .ok (.getfield 57, 3) := by decide +kernel
theorem dX5_copy_190 : decode cX5_copy 190 = .ok (.iload 6, 2) := by decide +kernel
theorem dX5_copy_192 : decode cX5_copy 192 = .ok (.iaload, 1) := by decide +kernel
theorem dX5_copy_193 : decode cX5_copy 193 = .ok (.iastore, 1) := by decide +kernel
theorem dX5_copy_194 : decode cX5_copy 194 = .ok (.iinc 6 1, 3) := by decide +kernel
theorem dX5_copy_197 : decode cX5_copy 197 = .ok (.goto (-32), 3) := by decide +kernel
theorem dX5_copy_200 : decode cX5_copy 200 = .ok (.iload 5, 2) := by decide +kernel
theorem dX5_copy_202 : decode cX5_copy 202 = .ok (.ireturn, 1) := by decide +kernel
theorem dX5_above_0 : decode cX5_above 0 = .ok (.iload_n 0, 1) := by decide +kernel
theorem dX5_above_1 : decode cX5_above 1 = .ok (.ifCond .ne 7, 3) := by decide +kernel
theorem dX5_above_4 : decode cX5_above 4 = .ok (.iconst (-1), 1) := by decide +kernel
theorem dX5_above_5 : decode cX5_above 5 = .ok (.goto 32, 3) := by decide +kernel
theorem dX5_above_8 : decode cX5_above 8 = .ok (.iload_n 0, 1) := by decide +kernel
theorem dX5_above_9 : decode cX5_above 9 = .ok (.iconst 3, 1) := by decide +kernel
theorem dX5_above_10 : decode cX5_above 10 = .ok (.if_icmp .ne 7, 3) := by decide +kernel
theorem dX5_above_13 : decode cX5_above 13 = .ok (.iconst 2, 1) := by decide +kernel
theorem dX5_above_14 : decode cX5_above 14 = .ok (.goto 23, 3) := by decide +kernel
theorem dX5_above_17 : decode cX5_above 17 = .ok (.iload_n 0, 1) := by decide +kernel
theorem dX5_above_18 : decode cX5_above 18 = .ok (.iconst 4, 1) := by decide +kernel
theorem dX5_above_19 : decode cX5_above 19 = .ok (.if_icmp .ne 7, 3) := by decide +kernel
theorem dX5_above_22 : decode cX5_above 22 = .ok (.iconst 3, 1) := by decide +kernel
theorem dX5_above_23 : decode cX5_above 23 = .ok (.goto 14, 3) := by decide +kernel
theorem dX5_above_26 : decode cX5_above 26 = .ok (.iload_n 0, 1) := by decide +kernel
theorem dX5_above_27 : decode cX5_above 27 = .ok (.bipush 6, 2) := by decide +kernel
theorem dX5_above_29 : decode cX5_above 29 = .ok (.if_icmp .ne 7, 3) := by decide +kernel
theorem dX5_above_32 : decode cX5_above 32 = .ok (.iconst 1, 1) := by decide +kernel
theorem dX5_above_33 : decode cX5_above 33 = .ok (.goto 4, 3) := by decide +kernel
theorem dX5_above_36 : decode cX5_above 36 = .ok (.iconst 0, 1) := by decide +kernel
theorem dX5_above_37 : decode cX5_above 37 = .ok (.ireturn, 1) := by decide +kernel
theorem dX5_isUnder_0 : decode cX5_isUnder 0 = .ok (.iload_n 0, 1) := by decide +kernel
theorem dX5_isUnder_1 : decode cX5_isUnder 1 = .ok (.istore_n 2, 1) := by decide +kernel
theorem dX5_isUnder_2 : decode cX5_isUnder 2 = .ok (.iload_n 2, 1) := by decide +kernel
theorem dX5_isUnder_3 : decode cX5_isUnder 3 = .ok (.ifCond .lt 16, 3) := by decide +kernel
theorem dX5_isUnder_6 : decode cX5_isUnder 6 = .ok (.iload_n 2, 1) := by decide +kernel
theorem dX5_isUnder_7 : decode cX5_isUnder 7 = .ok (.iload_n 1, 1) := by decide +kernel
theorem dX5_isUnder_8 : decode cX5_isUnder 8 = .ok (.if_icmp .eq 11, 3) := by decide +kernel
theorem dX5_isUnder_11 : decode cX5_isUnder 11 = .ok (.iload_n 2, 1) := by decide +kernel
theorem dX5_isUnder_12 : decode cX5_isUnder 12 = .ok (.invokestatic 307, 3) := by decide +kernel
theorem dX5_isUnder_15 : decode cX5_isUnder 15 = .ok (.istore_n 2, 1) := by decide +kernel
theorem dX5_isUnder_16 : decode cX5_isUnder 16 = .ok (.goto (-14), 3) := by decide +kernel
theorem dX5_isUnder_19 : decode cX5_isUnder 19 = .ok (.iload_n 2, 1) := by decide +kernel
theorem dX5_isUnder_20 : decode cX5_isUnder 20 = .ok (.ifCond .lt 7, 3) := by decide +kernel
theorem dX5_isUnder_23 : decode cX5_isUnder 23 = .ok (.iconst 1, 1) := by decide +kernel
theorem dX5_isUnder_24 : decode cX5_isUnder 24 = .ok (.goto 4, 3) := by decide +kernel
theorem dX5_isUnder_27 : decode cX5_isUnder 27 = .ok (.iconst 0, 1) := by decide +kernel
theorem dX5_isUnder_28 : decode cX5_isUnder 28 = .ok (.ireturn, 1) := by decide +kernel
theorem dX5_load_0 : decode cX5_load 0 = .ok (.aload_n 0, 1) := by decide +kernel
theorem dX5_load_1 : decode cX5_load 1 = .ok (.iload_n 1, 1) := by decide +kernel
theorem dX5_load_2 : decode cX5_load 2 = .ok (.iconst 1, 1) := by decide +kernel
theorem dX5_load_3 : decode cX5_load 3 = .ok (.invokevirtual 207, 3) := by decide +kernel
theorem dX5_load_6 : decode cX5_load 6 = .ok (.ifCond .eq 14, 3) := by decide +kernel
theorem dX5_load_9 : decode cX5_load 9 = .ok (.aload_n 0, 1) := by decide +kernel
theorem dX5_load_10 : decode cX5_load 10 = .ok (.aload_n 0, 1) := by decide +kernel
theorem dX5_load_11 : decode cX5_load 11 = .ok (.iload_n 1, 1) := by decide +kernel
theorem dX5_load_12 : decode cX5_load 12 = .ok (.iconst 1, 1) := by decide +kernel
theorem dX5_load_13 : decode cX5_load 13 = .ok (.invokevirtual 207, 3) := by decide +kernel
theorem dX5_load_16 : decode cX5_load 16 = .ok (.invokevirtual 66, 3) := by decide +kernel
theorem dX5_load_19 : decode cX5_load 19 = .ok (.ireturn, 1) := by decide +kernel
theorem dX5_load_20 : decode cX5_load 20 = .ok (.iconst 0, 1) := by decide +kernel
theorem dX5_load_21 : decode cX5_load 21 = .ok (.istore_n 2, 1) := by decide +kernel
theorem dX5_load_22 : decode cX5_load 22 = .ok (.iload_n 2, 1) := by decide +kernel
theorem dX5_load_23 : decode cX5_load 23 = .ok (.aload_n 0, 1) := by decide +kernel
theorem dX5_load_24 : decode cX5_load 24 = .ok (.getfield 51, 3) := by decide +kernel
theorem dX5_load_27 : decode cX5_load 27 = .ok (.iload_n 1, 1) := by decide +kernel
theorem dX5_load_28 : decode cX5_load 28 = .ok (.iaload, 1) := by decide +kernel
theorem dX5_load_29 : decode cX5_load 29 = .ok (.if_icmp .ge 53, 3) := by decide +kernel
theorem dX5_load_32 : decode cX5_load 32 = .ok (.iload_n 2, 1) := by decide +kernel
theorem dX5_load_33 : decode cX5_load 33 = .ok (.invokestatic 82, 3) := by decide +kernel
theorem dX5_load_36 : decode cX5_load 36 = .ok (.ifCond .eq 46, 3) := by decide +kernel
theorem dX5_load_39 : decode cX5_load 39 = .ok (.aload_n 0, 1) := by decide +kernel
theorem dX5_load_40 : decode cX5_load 40 = .ok (.getfield 54, 3) := by decide +kernel
theorem dX5_load_43 : decode cX5_load 43 = .ok (.bipush 40, 2) := by decide +kernel
theorem dX5_load_45 : decode cX5_load 45 = .ok (.iload_n 1, 1) := by decide +kernel
theorem dX5_load_46 : decode cX5_load 46 = .ok (.imul, 1) := by decide +kernel
theorem dX5_load_47 : decode cX5_load 47 = .ok (.iload_n 2, 1) := by decide +kernel
theorem dX5_load_48 : decode cX5_load 48 = .ok (.iadd, 1) := by decide +kernel
theorem dX5_load_49 : decode cX5_load 49 = .ok (.iaload, 1) := by decide +kernel
theorem dX5_load_50 : decode cX5_load 50 = .ok (.invokestatic 85, 3) := by decide +kernel
theorem dX5_load_53 : decode cX5_load 53 = .ok (.ifCond .eq 29, 3) := by decide +kernel
theorem dX5_load_56 : decode cX5_load 56 = .ok (.aload_n 0, 1) := by decide +kernel
theorem dX5_load_57 : decode cX5_load 57 = .ok (.getfield 9, 3) := by decide +kernel
theorem dX5_load_60 : decode cX5_load 60 = .ok (.bipush 12, 2) := by decide +kernel
theorem dX5_load_62 : decode cX5_load 62 = .ok (.iload_n 2, 1) := by decide +kernel
theorem dX5_load_63 : decode cX5_load 63 = .ok (.iadd, 1) := by decide +kernel
theorem dX5_load_64 : decode cX5_load 64 = .ok (.aload_n 0, 1) := by decide +kernel
theorem dX5_load_65 : decode cX5_load 65 = .ok (.getfield 54, 3) := by decide +kernel
theorem dX5_load_68 : decode cX5_load 68 = .ok (.bipush 40, 2) := by decide +kernel
theorem dX5_load_70 : decode cX5_load 70 = .ok (.iload_n 1, 1) := by decide +kernel
theorem dX5_load_71 : decode cX5_load 71 = .ok (.imul, 1) := by decide +kernel
theorem dX5_load_72 : decode cX5_load 72 = .ok (.iload_n 2, 1) := by decide +kernel
theorem dX5_load_73 : decode cX5_load 73 = .ok (.iadd, 1) := by decide +kernel
theorem dX5_load_74 : decode cX5_load 74 = .ok (.iaload, 1) := by decide +kernel
theorem dX5_load_75 : decode cX5_load 75 = .ok (.iastore, 1) := by decide +kernel
theorem dX5_load_76 : decode cX5_load 76 = .ok (.iinc 2 1, 3) := by decide +kernel
theorem dX5_load_79 : decode cX5_load 79 = .ok (.goto (-57), 3) := by decide +kernel
theorem dX5_load_82 : decode cX5_load 82 = .ok (.iload_n 2, 1) := by decide +kernel
theorem dX5_load_83 : decode cX5_load 83 = .ok (.ireturn, 1) := by decide +kernel
theorem dX5_judge_0 : decode cX5_judge 0 = .ok (.aload_n 0, 1) := by decide +kernel
theorem dX5_judge_1 : decode cX5_judge 1 = .ok (.iload_n 1, 1) := by decide +kernel
theorem dX5_judge_2 : decode cX5_judge 2 = .ok (.iconst 1, 1) := by decide +kernel
theorem dX5_judge_3 : decode cX5_judge 3 = .ok (.invokevirtual 207, 3) := by decide +kernel
theorem dX5_judge_6 : decode cX5_judge 6 = .ok (.ifCond .eq 14, 3) := by decide +kernel
theorem dX5_judge_9 : decode cX5_judge 9 = .ok (.aload_n 0, 1) := by decide +kernel
theorem dX5_judge_10 : decode cX5_judge 10 = .ok (.aload_n 0, 1) := by decide +kernel
theorem dX5_judge_11 : decode cX5_judge 11 = .ok (.iload_n 1, 1) := by decide +kernel
theorem dX5_judge_12 : decode cX5_judge 12 = .ok (.iconst 1, 1) := by decide +kernel
theorem dX5_judge_13 : decode cX5_judge 13 = .ok (.invokevirtual 207, 3) := by decide +kernel
theorem dX5_judge_16 : decode cX5_judge 16 = .ok (.invokevirtual 66, 3) := by decide +kernel
theorem dX5_judge_19 : decode cX5_judge 19 = .ok (.ireturn, 1) := by decide +kernel
theorem dX5_judge_20 : decode cX5_judge 20 = .ok (.iconst 0, 1) := by decide +kernel
theorem dX5_judge_21 : decode cX5_judge 21 = .ok (.istore_n 2, 1) := by decide +kernel
theorem dX5_judge_22 : decode cX5_judge 22 = .ok (.iload_n 2, 1) := by decide +kernel
theorem dX5_judge_23 : decode cX5_judge 23 = .ok (.aload_n 0, 1) := by decide +kernel
theorem dX5_judge_24 : decode cX5_judge 24 = .ok (.getfield 51, 3) := by decide +kernel
theorem dX5_judge_27 : decode cX5_judge 27 = .ok (.iload_n 1, 1) := by decide +kernel
theorem dX5_judge_28 : decode cX5_judge 28 = .ok (.iaload, 1) := by decide +kernel
theorem dX5_judge_29 : decode cX5_judge 29 = .ok (.if_icmp .ge 37, 3) := by decide +kernel
theorem dX5_judge_32 : decode cX5_judge 32 = .ok (.aload_n 0, 1) := by decide +kernel
theorem dX5_judge_33 : decode cX5_judge 33 = .ok (.iload_n 2, 1) := by decide +kernel
theorem dX5_judge_34 : decode cX5_judge 34 = .ok (.invokevirtual 131, 3) := by decide +kernel
theorem dX5_judge_37 : decode cX5_judge 37 = .ok (.ifCond .eq 29, 3) := by decide +kernel
theorem dX5_judge_40 : decode cX5_judge 40 = .ok (.aload_n 0, 1) := by decide +kernel
theorem dX5_judge_41 : decode cX5_judge 41 = .ok (.getfield 54, 3) := by decide +kernel
theorem dX5_judge_44 : decode cX5_judge 44 = .ok (.bipush 40, 2) := by decide +kernel
theorem dX5_judge_46 : decode cX5_judge 46 = .ok (.iload_n 1, 1) := by decide +kernel
theorem dX5_judge_47 : decode cX5_judge 47 = .ok (.imul, 1) := by decide +kernel
theorem dX5_judge_48 : decode cX5_judge 48 = .ok (.iload_n 2, 1) := by decide +kernel
theorem dX5_judge_49 : decode cX5_judge 49 = .ok (.iadd, 1) := by decide +kernel
theorem dX5_judge_50 : decode cX5_judge 50 = .ok (.iaload, 1) := by decide +kernel
theorem dX5_judge_51 : decode cX5_judge 51 = .ok (.aload_n 0, 1) := by decide +kernel
theorem dX5_judge_52 : decode cX5_judge 52 = .ok (.iload_n 2, 1) := by decide +kernel
theorem dX5_judge_53 : decode cX5_judge 53 = .ok (.iconst 1, 1) := by decide +kernel
theorem dX5_judge_54 : decode cX5_judge 54 = .ok (.invokevirtual 116, 3) := by decide +kernel
theorem dX5_judge_57 : decode cX5_judge 57 = .ok (.if_icmp .ne 9, 3) := by decide +kernel
theorem dX5_judge_60 : decode cX5_judge 60 = .ok (.iinc 2 1, 3) := by decide +kernel
theorem dX5_judge_63 : decode cX5_judge 63 = .ok (.goto (-41), 3) := by decide +kernel
theorem dX5_judge_66 : decode cX5_judge 66 = .ok (.iload_n 2, 1) := by decide +kernel
theorem dX5_judge_67 : decode cX5_judge 67 = .ok (.aload_n 0, 1) := by decide +kernel
theorem dX5_judge_68 : decode cX5_judge 68 = .ok (.getfield 51, 3) := by decide +kernel
theorem dX5_judge_71 : decode cX5_judge 71 = .ok (.iload_n 1, 1) := by decide +kernel
theorem dX5_judge_72 : decode cX5_judge 72 = .ok (.iaload, 1) := by decide +kernel
theorem dX5_judge_73 : decode cX5_judge 73 = .ok (.if_icmp .ne 7, 3) := by decide +kernel
theorem dX5_judge_76 : decode cX5_judge 76 = .ok (.iconst 0, 1) := by decide +kernel
theorem dX5_judge_77 : decode cX5_judge 77 = .ok (.goto 6, 3) := by decide +kernel
theorem dX5_judge_80 : decode cX5_judge 80 = .ok (.iconst 1, 1) := by decide +kernel
theorem dX5_judge_81 : decode cX5_judge 81 = .ok (.iload_n 2, 1) := by decide +kernel
theorem dX5_judge_82 : decode cX5_judge 82 = .ok (.iadd, 1) := by decide +kernel
theorem dX5_judge_83 : decode cX5_judge 83 = .ok (.ireturn, 1) := by decide +kernel
theorem dX5_image_0 : decode cX5_image 0 = .ok (.aload_n 0, 1) := by decide +kernel
theorem dX5_image_1 : decode cX5_image 1 = .ok (.getfield 9, 3) := by decide +kernel
theorem dX5_image_4 : decode cX5_image 4 = .ok (.aload_n 0, 1) := by decide +kernel
theorem dX5_image_5 : decode cX5_image 5 = .ok (.getfield 13, 3) := by decide +kernel
theorem dX5_image_8 : decode cX5_image 8 = .ok (.invokestatic 61, 3) := by decide +kernel
theorem dX5_image_11 : decode cX5_image 11 = .ok (.aload_n 0, 1) := by decide +kernel
theorem dX5_image_12 : decode cX5_image 12 = .ok (.iconst 1, 1) := by decide +kernel
theorem dX5_image_13 : decode cX5_image 13 = .ok (.putfield 310, 3) := by decide +kernel
theorem dX5_image_16 : decode cX5_image 16 = .ok (.iconst 1, 1) := by decide +kernel
theorem dX5_image_17 : decode cX5_image 17 = .ok (.ireturn, 1) := by decide +kernel
theorem dX5_undo_0 : decode cX5_undo 0 = .ok (.aload_n 0, 1) := by decide +kernel
theorem dX5_undo_1 : decode cX5_undo 1 = .ok (.getfield 310, 3) := by decide +kernel
theorem dX5_undo_4 : decode cX5_undo 4 = .ok (.ifCond .ne 10, 3) := by decide +kernel
theorem dX5_undo_7 : decode cX5_undo 7 = .ok (.aload_n 0, 1) := by decide +kernel
theorem dX5_undo_8 : decode cX5_undo 8 = .ok (.ldc 65, 2) := by decide +kernel
theorem dX5_undo_10 : decode cX5_undo 10 = .ok (.invokevirtual 66, 3) := by decide +kernel
theorem dX5_undo_13 : decode cX5_undo 13 = .ok (.ireturn, 1) := by decide +kernel
theorem dX5_undo_14 : decode cX5_undo 14 = .ok (.aload_n 0, 1) := by decide +kernel
theorem dX5_undo_15 : decode cX5_undo 15 = .ok (.getfield 13, 3) := by decide +kernel
theorem dX5_undo_18 : decode cX5_undo 18 = .ok (.aload_n 0, 1) := by decide +kernel
theorem dX5_undo_19 : decode cX5_undo 19 = .ok (.getfield 9, 3) := by decide +kernel
theorem dX5_undo_22 : decode cX5_undo 22 = .ok (.invokestatic 61, 3) := by decide +kernel
theorem dX5_undo_25 : decode cX5_undo 25 = .ok (.aload_n 0, 1) := by decide +kernel
theorem dX5_undo_26 : decode cX5_undo 26 = .ok (.getfield 9, 3) := by decide +kernel
theorem dX5_undo_29 : decode cX5_undo 29 = .ok (.iconst 0, 1) := by decide +kernel
theorem dX5_undo_30 : decode cX5_undo 30 = .ok (.iaload, 1) := by decide +kernel
theorem dX5_undo_31 : decode cX5_undo 31 = .ok (.ireturn, 1) := by decide +kernel
theorem dX5_tear_0 : decode cX5_tear 0 = .ok (.aload_n 0, 1) := by decide +kernel
theorem dX5_tear_1 : decode cX5_tear 1 = .ok (.getfield 310, 3) := by decide +kernel
theorem dX5_tear_4 : decode cX5_tear 4 = .ok (.ifCond .eq 7, 3) := by decide +kernel
theorem dX5_tear_7 : decode cX5_tear 7 = .ok (.iconst 1, 1) := by decide +kernel
theorem dX5_tear_8 : decode cX5_tear 8 = .ok (.goto 4, 3) := by decide +kernel
theorem dX5_tear_11 : decode cX5_tear 11 = .ok (.iconst 0, 1) := by decide +kernel
theorem dX5_tear_12 : decode cX5_tear 12 = .ok (.istore_n 1, 1) := by decide +kernel
theorem dX5_tear_13 : decode cX5_tear 13 = .ok (.aload_n 0, 1) := by decide +kernel
theorem dX5_tear_14 : decode cX5_tear 14 = .ok (.iconst 0, 1) := by decide +kernel
theorem dX5_tear_15 : decode cX5_tear 15 = .ok (.putfield 310, 3) := by decide +kernel
theorem dX5_tear_18 : decode cX5_tear 18 = .ok (.iload_n 1, 1) := by decide +kernel
theorem dX5_tear_19 : decode cX5_tear 19 = .ok (.ireturn, 1) := by decide +kernel
theorem dX5_count_0 : decode cX5_count 0 = .ok (.iconst 0, 1) := by decide +kernel
theorem dX5_count_1 : decode cX5_count 1 = .ok (.istore_n 2, 1) := by decide +kernel
theorem dX5_count_2 : decode cX5_count 2 = .ok (.iload_n 1, 1) := by decide +kernel
theorem dX5_count_3 : decode cX5_count 3 = .ok (.tableswitch 150 0 7 #[45, 52, 59, 66, 73, 102, 107, 114], 45) := by decide +kernel
theorem dX5_count_48 : decode cX5_count 48 = .ok (.aload_n 0, 1) := by decide +kernel
theorem dX5_count_49 : decode cX5_count 49 = .ok (.getfield 9, 3) := by decide +kernel
theorem dX5_count_52 : decode cX5_count 52 = .ok (.iconst 0, 1) := by decide +kernel
theorem dX5_count_53 : decode cX5_count 53 = .ok (.iaload, 1) := by decide +kernel
theorem dX5_count_54 : decode cX5_count 54 = .ok (.ireturn, 1) := by decide +kernel
theorem dX5_count_55 : decode cX5_count 55 = .ok (.aload_n 0, 1) := by decide +kernel
theorem dX5_count_56 : decode cX5_count 56 = .ok (.getfield 9, 3) := by decide +kernel
theorem dX5_count_59 : decode cX5_count 59 = .ok (.iconst 1, 1) := by decide +kernel
theorem dX5_count_60 : decode cX5_count 60 = .ok (.iaload, 1) := by decide +kernel
theorem dX5_count_61 : decode cX5_count 61 = .ok (.ireturn, 1) := by decide +kernel
theorem dX5_count_62 : decode cX5_count 62 = .ok (.aload_n 0, 1) := by decide +kernel
theorem dX5_count_63 : decode cX5_count 63 = .ok (.getfield 9, 3) := by decide +kernel
theorem dX5_count_66 : decode cX5_count 66 = .ok (.iconst 4, 1) := by decide +kernel
theorem dX5_count_67 : decode cX5_count 67 = .ok (.iaload, 1) := by decide +kernel
theorem dX5_count_68 : decode cX5_count 68 = .ok (.ireturn, 1) := by decide +kernel
theorem dX5_count_69 : decode cX5_count 69 = .ok (.aload_n 0, 1) := by decide +kernel
theorem dX5_count_70 : decode cX5_count 70 = .ok (.getfield 9, 3) := by decide +kernel
theorem dX5_count_73 : decode cX5_count 73 = .ok (.iconst 5, 1) := by decide +kernel
theorem dX5_count_74 : decode cX5_count 74 = .ok (.iaload, 1) := by decide +kernel
theorem dX5_count_75 : decode cX5_count 75 = .ok (.ireturn, 1) := by decide +kernel
theorem dX5_count_76 : decode cX5_count 76 = .ok (.iconst 0, 1) := by decide +kernel
theorem dX5_count_77 : decode cX5_count 77 = .ok (.istore_n 3, 1) := by decide +kernel
theorem dX5_count_78 : decode cX5_count 78 = .ok (.iload_n 3, 1) := by decide +kernel
theorem dX5_count_79 : decode cX5_count 79 = .ok (.aload_n 0, 1) := by decide +kernel
theorem dX5_count_80 : decode cX5_count 80 = .ok (.getfield 9, 3) := by decide +kernel
theorem dX5_count_83 : decode cX5_count 83 = .ok (.iconst 1, 1) := by decide +kernel
theorem dX5_count_84 : decode cX5_count 84 = .ok (.iaload, 1) := by decide +kernel
theorem dX5_count_85 : decode cX5_count 85 = .ok (.if_icmp .ge 18, 3) := by decide +kernel
theorem dX5_count_88 : decode cX5_count 88 = .ok (.iload_n 2, 1) := by decide +kernel
theorem dX5_count_89 : decode cX5_count 89 = .ok (.aload_n 0, 1) := by decide +kernel
theorem dX5_count_90 : decode cX5_count 90 = .ok (.iload_n 3, 1) := by decide +kernel
theorem dX5_count_91 : decode cX5_count 91 = .ok (.iconst 5, 1) := by decide +kernel
theorem dX5_count_92 : decode cX5_count 92 = .ok (.invokevirtual 116, 3) := by decide +kernel
theorem dX5_count_95 : decode cX5_count 95 = .ok (.iadd, 1) := by decide +kernel
theorem dX5_count_96 : decode cX5_count 96 = .ok (.istore_n 2, 1) := by decide +kernel
theorem dX5_count_97 : decode cX5_count 97 = .ok (.iinc 3 1, 3) := by decide +kernel
theorem dX5_count_100 : decode cX5_count 100 = .ok (.goto (-22), 3) := by decide +kernel
theorem dX5_count_103 : decode cX5_count 103 = .ok (.iload_n 2, 1) := by decide +kernel
theorem dX5_count_104 : decode cX5_count 104 = .ok (.ireturn, 1) := by decide +kernel
theorem dX5_count_105 : decode cX5_count 105 = .ok (.aload_n 0, 1) := by decide +kernel
theorem dX5_count_106 : decode cX5_count 106 = .ok (.getfield 218, 3) := by decide +kernel
theorem dX5_count_109 : decode cX5_count 109 = .ok (.ireturn, 1) := by decide +kernel
theorem dX5_count_110 : decode cX5_count 110 = .ok (.aload_n 0, 1) := by decide +kernel
theorem dX5_count_111 : decode cX5_count 111 = .ok (.getfield 9, 3) := by decide +kernel
theorem dX5_count_114 : decode cX5_count 114 = .ok (.iconst 2, 1) := by decide +kernel
theorem dX5_count_115 : decode cX5_count 115 = .ok (.iaload, 1) := by decide +kernel
theorem dX5_count_116 : decode cX5_count 116 = .ok (.ireturn, 1) := by decide +kernel
theorem dX5_count_117 : decode cX5_count 117 = .ok (.iconst 0, 1) := by decide +kernel
theorem dX5_count_118 : decode cX5_count 118 = .ok (.istore_n 3, 1) := by decide +kernel
theorem dX5_count_119 : decode cX5_count 119 = .ok (.iload_n 3, 1) := by decide +kernel
theorem dX5_count_120 : decode cX5_count 120 = .ok (.bipush 10, 2) := by decide +kernel
theorem dX5_count_122 : decode cX5_count 122 = .ok (.if_icmp .ge 29, 3) := by decide +kernel
theorem dX5_count_125 : decode cX5_count 125 = .ok (.iload_n 2, 1) := by decide +kernel
theorem dX5_count_126 : decode cX5_count 126 = .ok (.aload_n 0, 1) := by decide +kernel
theorem dX5_count_127 : decode cX5_count 127 = .ok (.getfield 9, 3) := by decide +kernel
theorem dX5_count_130 : decode cX5_count 130 = .ok (.bipush 28, 2) := by decide +kernel
theorem dX5_count_132 : decode cX5_count 132 = .ok (.iload_n 3, 1) := by decide +kernel
theorem dX5_count_133 : decode cX5_count 133 = .ok (.iadd, 1) := by decide +kernel
theorem dX5_count_134 : decode cX5_count 134 = .ok (.iaload, 1) := by decide +kernel
theorem dX5_count_135 : decode cX5_count 135 = .ok (.ifCond .ge 7, 3) := by decide +kernel
theorem dX5_count_138 : decode cX5_count 138 = .ok (.iconst 0, 1) := by decide +kernel
theorem dX5_count_139 : decode cX5_count 139 = .ok (.goto 4, 3) := by decide +kernel
theorem dX5_count_142 : decode cX5_count 142 = .ok (.iconst 1, 1) := by decide +kernel
theorem dX5_count_143 : decode cX5_count 143 = .ok (.iadd, 1) := by decide +kernel
theorem dX5_count_144 : decode cX5_count 144 = .ok (.istore_n 2, 1) := by decide +kernel
theorem dX5_count_145 : decode cX5_count 145 = .ok (.iinc 3 1, 3) := by decide +kernel
theorem dX5_count_148 : decode cX5_count 148 = .ok (.goto (-29), 3) := by decide +kernel
theorem dX5_count_151 : decode cX5_count 151 = .ok (.iload_n 2, 1) := by decide +kernel
theorem dX5_count_152 : decode cX5_count 152 = .ok (.ireturn, 1) := by decide +kernel
theorem dX5_count_153 : decode cX5_count 153 = .ok (.aload_n 0, 1) := by decide +kernel
theorem dX5_count_154 : decode cX5_count 154 = .ok (.ldc 60, 2) := by decide +kernel
theorem dX5_count_156 : decode cX5_count 156 = .ok (.invokevirtual 66, 3) := by decide +kernel
theorem dX5_count_159 : decode cX5_count 159 = .ok (.ireturn, 1) := by decide +kernel
theorem dX5_status_0 : decode cX5_status 0 = .ok (.iload_n 1, 1) := by decide +kernel
theorem dX5_status_1 : decode cX5_status 1 = .ok (.iconst (-1), 1) := by decide +kernel
theorem dX5_status_2 : decode cX5_status 2 = .ok (.bipush 6, 2) := by decide +kernel
theorem dX5_status_4 : decode cX5_status 4 = .ok (.invokestatic 70, 3) := by decide +kernel
theorem dX5_status_7 : decode cX5_status 7 = .ok (.ifCond .eq 14, 3) := by decide +kernel
theorem dX5_status_10 : decode cX5_status 10 = .ok (.aload_n 0, 1) := by decide +kernel
theorem dX5_status_11 : decode cX5_status 11 = .ok (.getfield 19, 3) := by decide +kernel
theorem dX5_status_14 : decode cX5_status 14 = .ok (.iload_n 1, 1) := by decide +kernel
theorem dX5_status_15 : decode cX5_status 15 = .ok (.iconst 1, 1) := by decide +kernel
theorem dX5_status_16 : decode cX5_status 16 = .ok (.iadd, 1) := by decide +kernel
theorem dX5_status_17 : decode cX5_status 17 = .ok (.iaload, 1) := by decide +kernel
theorem dX5_status_18 : decode cX5_status 18 = .ok (.goto 9, 3) := by decide +kernel
theorem dX5_status_21 : decode cX5_status 21 = .ok (.aload_n 0, 1) := by decide +kernel
theorem dX5_status_22 : decode cX5_status 22 = .ok (.ldc 60, 2) := by decide +kernel
theorem dX5_status_24 : decode cX5_status 24 = .ok (.invokevirtual 66, 3) := by decide +kernel
theorem dX5_status_27 : decode cX5_status 27 = .ok (.ireturn, 1) := by decide +kernel
end
section
theorem dL_law_0 : decode cL_law 0 = .ok (.new 7, 3) := by decide +kernel
theorem dL_law_3 : decode cL_law 3 = .ok (.dup, 1) := by decide +kernel
theorem dL_law_4 : decode cL_law 4 = .ok (.invokespecial 9, 3) := by decide +kernel
theorem dL_law_7 : decode cL_law 7 = .ok (.astore_n 1, 1) := by decide +kernel
theorem dL_law_8 : decode cL_law 8 = .ok (.new 10, 3) := by decide +kernel
theorem dL_law_11 : decode cL_law 11 = .ok (.dup, 1) := by decide +kernel
theorem dL_law_12 : decode cL_law 12 = .ok (.invokespecial 12, 3) := by decide +kernel
theorem dL_law_15 : decode cL_law 15 = .ok (.astore_n 2, 1) := by decide +kernel
theorem dL_law_16 : decode cL_law 16 = .ok (.iconst 0, 1) := by decide +kernel
theorem dL_law_17 : decode cL_law 17 = .ok (.istore_n 3, 1) := by decide +kernel
theorem dL_law_18 : decode cL_law 18 = .ok (.iload_n 3, 1) := by decide +kernel
theorem dL_law_19 : decode cL_law 19 = .ok (.aload_n 0, 1) := by decide +kernel
theorem dL_law_20 : decode cL_law 20 = .ok (.arraylength, 1) := by decide +kernel
theorem dL_law_21 : decode cL_law 21 = .ok (.bipush 6, 2) := by decide +kernel
theorem dL_law_23 : decode cL_law 23 = .ok (.isub, 1) := by decide +kernel
theorem dL_law_24 : decode cL_law 24 = .ok (.if_icmp .gt 1398, 3) := by decide +kernel
theorem dL_law_27 : decode cL_law 27 = .ok (.aload_n 0, 1) := by decide +kernel
theorem dL_law_28 : decode cL_law 28 = .ok (.iload_n 3, 1) := by decide +kernel
theorem dL_law_29 : decode cL_law 29 = .ok (.iaload, 1) := by decide +kernel
theorem dL_law_30 : decode cL_law 30 = .ok (.bipush 63, 2) := by decide +kernel
theorem dL_law_32 : decode cL_law 32 = .ok (.iand, 1) := by decide +kernel
theorem dL_law_33 : decode cL_law 33 = .ok (.tableswitch 1383 0 40 #[179, 212, 245, 278, 301, 334, 367, 400, 443, 476, 499, 522, 565, 588, 601, 634, 667, 700, 733, 766, 799, 822, 855, 888, 911, 955, 978, 1011, 1024, 1037, 1070, 1103, 1146, 1189, 1252, 1275, 1298, 1311, 1324, 1337, 1360], 179) := by decide +kernel
theorem dL_law_212 : decode cL_law 212 = .ok (.aload_n 1, 1) := by decide +kernel
theorem dL_law_213 : decode cL_law 213 = .ok (.aload_n 0, 1) := by decide +kernel
theorem dL_law_214 : decode cL_law 214 = .ok (.iload_n 3, 1) := by decide +kernel
theorem dL_law_215 : decode cL_law 215 = .ok (.iconst 1, 1) := by decide +kernel
theorem dL_law_216 : decode cL_law 216 = .ok (.iadd, 1) := by decide +kernel
theorem dL_law_217 : decode cL_law 217 = .ok (.iaload, 1) := by decide +kernel
theorem dL_law_218 : decode cL_law 218 = .ok (.aload_n 0, 1) := by decide +kernel
theorem dL_law_219 : decode cL_law 219 = .ok (.iload_n 3, 1) := by decide +kernel
theorem dL_law_220 : decode cL_law 220 = .ok (.iconst 2, 1) := by decide +kernel
theorem dL_law_221 : decode cL_law 221 = .ok (.iadd, 1) := by decide +kernel
theorem dL_law_222 : decode cL_law 222 = .ok (.iaload, 1) := by decide +kernel
theorem dL_law_223 : decode cL_law 223 = .ok (.invokevirtual 13, 3) := by decide +kernel
theorem dL_law_226 : decode cL_law 226 = .ok (.aload_n 2, 1) := by decide +kernel
theorem dL_law_227 : decode cL_law 227 = .ok (.aload_n 0, 1) := by decide +kernel
theorem dL_law_228 : decode cL_law 228 = .ok (.iload_n 3, 1) := by decide +kernel
theorem dL_law_229 : decode cL_law 229 = .ok (.iconst 1, 1) := by decide +kernel
theorem dL_law_230 : decode cL_law 230 = .ok (.iadd, 1) := by decide +kernel
theorem dL_law_231 : decode cL_law 231 = .ok (.iaload, 1) := by decide +kernel
theorem dL_law_232 : decode cL_law 232 = .ok (.aload_n 0, 1) := by decide +kernel
theorem dL_law_233 : decode cL_law 233 = .ok (.iload_n 3, 1) := by decide +kernel
theorem dL_law_234 : decode cL_law 234 = .ok (.iconst 2, 1) := by decide +kernel
theorem dL_law_235 : decode cL_law 235 = .ok (.iadd, 1) := by decide +kernel
theorem dL_law_236 : decode cL_law 236 = .ok (.iaload, 1) := by decide +kernel
theorem dL_law_237 : decode cL_law 237 = .ok (.invokevirtual 17, 3) := by decide +kernel
theorem dL_law_240 : decode cL_law 240 = .ok (.if_icmp .eq 1176, 3) := by decide +kernel
theorem dL_law_243 : decode cL_law 243 = .ok (.iconst 0, 1) := by decide +kernel
theorem dL_law_244 : decode cL_law 244 = .ok (.ireturn, 1) := by decide +kernel
theorem dL_law_245 : decode cL_law 245 = .ok (.aload_n 1, 1) := by decide +kernel
theorem dL_law_246 : decode cL_law 246 = .ok (.aload_n 0, 1) := by decide +kernel
theorem dL_law_247 : decode cL_law 247 = .ok (.iload_n 3, 1) := by decide +kernel
theorem dL_law_248 : decode cL_law 248 = .ok (.iconst 1, 1) := by decide +kernel
theorem dL_law_249 : decode cL_law 249 = .ok (.iadd, 1) := by decide +kernel
theorem dL_law_250 : decode cL_law 250 = .ok (.iaload, 1) := by decide +kernel
theorem dL_law_251 : decode cL_law 251 = .ok (.aload_n 0, 1) := by decide +kernel
theorem dL_law_252 : decode cL_law 252 = .ok (.iload_n 3, 1) := by decide +kernel
theorem dL_law_253 : decode cL_law 253 = .ok (.iconst 2, 1) := by decide +kernel
theorem dL_law_254 : decode cL_law 254 = .ok (.iadd, 1) := by decide +kernel
theorem dL_law_255 : decode cL_law 255 = .ok (.iaload, 1) := by decide +kernel
theorem dL_law_256 : decode cL_law 256 = .ok (.invokevirtual 18, 3) := by decide +kernel
theorem dL_law_259 : decode cL_law 259 = .ok (.aload_n 2, 1) := by decide +kernel
theorem dL_law_260 : decode cL_law 260 = .ok (.aload_n 0, 1) := by decide +kernel
theorem dL_law_261 : decode cL_law 261 = .ok (.iload_n 3, 1) := by decide +kernel
theorem dL_law_262 : decode cL_law 262 = .ok (.iconst 1, 1) := by decide +kernel
theorem dL_law_263 : decode cL_law 263 = .ok (.iadd, 1) := by decide +kernel
theorem dL_law_264 : decode cL_law 264 = .ok (.iaload, 1) := by decide +kernel
theorem dL_law_265 : decode cL_law 265 = .ok (.aload_n 0, 1) := by decide +kernel
theorem dL_law_266 : decode cL_law 266 = .ok (.iload_n 3, 1) := by decide +kernel
theorem dL_law_267 : decode cL_law 267 = .ok (.iconst 2, 1) := by decide +kernel
theorem dL_law_268 : decode cL_law 268 = .ok (.iadd, 1) := by decide +kernel
theorem dL_law_269 : decode cL_law 269 = .ok (.iaload, 1) := by decide +kernel
theorem dL_law_270 : decode cL_law 270 = .ok (.invokevirtual 21, 3) := by decide +kernel
theorem dL_law_273 : decode cL_law 273 = .ok (.if_icmp .eq 1143, 3) := by decide +kernel
theorem dL_law_276 : decode cL_law 276 = .ok (.iconst 0, 1) := by decide +kernel
theorem dL_law_277 : decode cL_law 277 = .ok (.ireturn, 1) := by decide +kernel
theorem dL_law_278 : decode cL_law 278 = .ok (.aload_n 1, 1) := by decide +kernel
theorem dL_law_279 : decode cL_law 279 = .ok (.aload_n 0, 1) := by decide +kernel
theorem dL_law_280 : decode cL_law 280 = .ok (.iload_n 3, 1) := by decide +kernel
theorem dL_law_281 : decode cL_law 281 = .ok (.iconst 1, 1) := by decide +kernel
theorem dL_law_282 : decode cL_law 282 = .ok (.iadd, 1) := by decide +kernel
theorem dL_law_283 : decode cL_law 283 = .ok (.iaload, 1) := by decide +kernel
theorem dL_law_284 : decode cL_law 284 = .ok (.aload_n 0, 1) := by decide +kernel
theorem dL_law_285 : decode cL_law 285 = .ok (.iload_n 3, 1) := by decide +kernel
theorem dL_law_286 : decode cL_law 286 = .ok (.iconst 2, 1) := by decide +kernel
theorem dL_law_287 : decode cL_law 287 = .ok (.iadd, 1) := by decide +kernel
theorem dL_law_288 : decode cL_law 288 = .ok (.iaload, 1) := by decide +kernel
theorem dL_law_289 : decode cL_law 289 = .ok (.invokevirtual 22, 3) := by decide +kernel
theorem dL_law_292 : decode cL_law 292 = .ok (.aload_n 2, 1) := by decide +kernel
theorem dL_law_293 : decode cL_law 293 = .ok (.aload_n 0, 1) := by decide +kernel
theorem dL_law_294 : decode cL_law 294 = .ok (.iload_n 3, 1) := by decide +kernel
theorem dL_law_295 : decode cL_law 295 = .ok (.iconst 1, 1) := by decide +kernel
theorem dL_law_296 : decode cL_law 296 = .ok (.iadd, 1) := by decide +kernel
theorem dL_law_297 : decode cL_law 297 = .ok (.iaload, 1) := by decide +kernel
theorem dL_law_298 : decode cL_law 298 = .ok (.aload_n 0, 1) := by decide +kernel
theorem dL_law_299 : decode cL_law 299 = .ok (.iload_n 3, 1) := by decide +kernel
theorem dL_law_300 : decode cL_law 300 = .ok (.iconst 2, 1) := by decide +kernel
theorem dL_law_301 : decode cL_law 301 = .ok (.iadd, 1) := by decide +kernel
theorem dL_law_302 : decode cL_law 302 = .ok (.iaload, 1) := by decide +kernel
theorem dL_law_303 : decode cL_law 303 = .ok (.invokevirtual 25, 3) := by decide +kernel
theorem dL_law_306 : decode cL_law 306 = .ok (.if_icmp .eq 1110, 3) := by decide +kernel
theorem dL_law_309 : decode cL_law 309 = .ok (.iconst 0, 1) := by decide +kernel
theorem dL_law_310 : decode cL_law 310 = .ok (.ireturn, 1) := by decide +kernel
theorem dL_law_311 : decode cL_law 311 = .ok (.aload_n 1, 1) := by decide +kernel
theorem dL_law_312 : decode cL_law 312 = .ok (.aload_n 0, 1) := by decide +kernel
theorem dL_law_313 : decode cL_law 313 = .ok (.iload_n 3, 1) := by decide +kernel
theorem dL_law_314 : decode cL_law 314 = .ok (.iconst 1, 1) := by decide +kernel
theorem dL_law_315 : decode cL_law 315 = .ok (.iadd, 1) := by decide +kernel
theorem dL_law_316 : decode cL_law 316 = .ok (.iaload, 1) := by decide +kernel
theorem dL_law_317 : decode cL_law 317 = .ok (.invokevirtual 26, 3) := by decide +kernel
theorem dL_law_320 : decode cL_law 320 = .ok (.aload_n 2, 1) := by decide +kernel
theorem dL_law_321 : decode cL_law 321 = .ok (.aload_n 0, 1) := by decide +kernel
theorem dL_law_322 : decode cL_law 322 = .ok (.iload_n 3, 1) := by decide +kernel
theorem dL_law_323 : decode cL_law 323 = .ok (.iconst 1, 1) := by decide +kernel
theorem dL_law_324 : decode cL_law 324 = .ok (.iadd, 1) := by decide +kernel
theorem dL_law_325 : decode cL_law 325 = .ok (.iaload, 1) := by decide +kernel
theorem dL_law_326 : decode cL_law 326 = .ok (.invokevirtual 30, 3) := by decide +kernel
theorem dL_law_329 : decode cL_law 329 = .ok (.if_icmp .eq 1087, 3) := by decide +kernel
theorem dL_law_332 : decode cL_law 332 = .ok (.iconst 0, 1) := by decide +kernel
theorem dL_law_333 : decode cL_law 333 = .ok (.ireturn, 1) := by decide +kernel
theorem dL_law_334 : decode cL_law 334 = .ok (.aload_n 1, 1) := by decide +kernel
theorem dL_law_335 : decode cL_law 335 = .ok (.aload_n 0, 1) := by decide +kernel
theorem dL_law_336 : decode cL_law 336 = .ok (.iload_n 3, 1) := by decide +kernel
theorem dL_law_337 : decode cL_law 337 = .ok (.iconst 1, 1) := by decide +kernel
theorem dL_law_338 : decode cL_law 338 = .ok (.iadd, 1) := by decide +kernel
theorem dL_law_339 : decode cL_law 339 = .ok (.iaload, 1) := by decide +kernel
theorem dL_law_340 : decode cL_law 340 = .ok (.aload_n 0, 1) := by decide +kernel
theorem dL_law_341 : decode cL_law 341 = .ok (.iload_n 3, 1) := by decide +kernel
theorem dL_law_342 : decode cL_law 342 = .ok (.iconst 2, 1) := by decide +kernel
theorem dL_law_343 : decode cL_law 343 = .ok (.iadd, 1) := by decide +kernel
theorem dL_law_344 : decode cL_law 344 = .ok (.iaload, 1) := by decide +kernel
theorem dL_law_345 : decode cL_law 345 = .ok (.invokevirtual 31, 3) := by decide +kernel
theorem dL_law_348 : decode cL_law 348 = .ok (.aload_n 2, 1) := by decide +kernel
theorem dL_law_349 : decode cL_law 349 = .ok (.aload_n 0, 1) := by decide +kernel
theorem dL_law_350 : decode cL_law 350 = .ok (.iload_n 3, 1) := by decide +kernel
theorem dL_law_351 : decode cL_law 351 = .ok (.iconst 1, 1) := by decide +kernel
theorem dL_law_352 : decode cL_law 352 = .ok (.iadd, 1) := by decide +kernel
theorem dL_law_353 : decode cL_law 353 = .ok (.iaload, 1) := by decide +kernel
theorem dL_law_354 : decode cL_law 354 = .ok (.aload_n 0, 1) := by decide +kernel
theorem dL_law_355 : decode cL_law 355 = .ok (.iload_n 3, 1) := by decide +kernel
theorem dL_law_356 : decode cL_law 356 = .ok (.iconst 2, 1) := by decide +kernel
theorem dL_law_357 : decode cL_law 357 = .ok (.iadd, 1) := by decide +kernel
theorem dL_law_358 : decode cL_law 358 = .ok (.iaload, 1) := by decide +kernel
theorem dL_law_359 : decode cL_law 359 = .ok (.invokevirtual 34, 3) := by decide +kernel
theorem dL_law_362 : decode cL_law 362 = .ok (.if_icmp .eq 1054, 3) := by decide +kernel
theorem dL_law_365 : decode cL_law 365 = .ok (.iconst 0, 1) := by decide +kernel
theorem dL_law_366 : decode cL_law 366 = .ok (.ireturn, 1) := by decide +kernel
theorem dL_law_367 : decode cL_law 367 = .ok (.aload_n 1, 1) := by decide +kernel
theorem dL_law_368 : decode cL_law 368 = .ok (.aload_n 0, 1) := by decide +kernel
theorem dL_law_369 : decode cL_law 369 = .ok (.iload_n 3, 1) := by decide +kernel
theorem dL_law_370 : decode cL_law 370 = .ok (.iconst 1, 1) := by decide +kernel
theorem dL_law_371 : decode cL_law 371 = .ok (.iadd, 1) := by decide +kernel
theorem dL_law_372 : decode cL_law 372 = .ok (.iaload, 1) := by decide +kernel
theorem dL_law_373 : decode cL_law 373 = .ok (.aload_n 0, 1) := by decide +kernel
theorem dL_law_374 : decode cL_law 374 = .ok (.iload_n 3, 1) := by decide +kernel
theorem dL_law_375 : decode cL_law 375 = .ok (.iconst 2, 1) := by decide +kernel
theorem dL_law_376 : decode cL_law 376 = .ok (.iadd, 1) := by decide +kernel
theorem dL_law_377 : decode cL_law 377 = .ok (.iaload, 1) := by decide +kernel
theorem dL_law_378 : decode cL_law 378 = .ok (.invokevirtual 35, 3) := by decide +kernel
theorem dL_law_381 : decode cL_law 381 = .ok (.aload_n 2, 1) := by decide +kernel
theorem dL_law_382 : decode cL_law 382 = .ok (.aload_n 0, 1) := by decide +kernel
theorem dL_law_383 : decode cL_law 383 = .ok (.iload_n 3, 1) := by decide +kernel
theorem dL_law_384 : decode cL_law 384 = .ok (.iconst 1, 1) := by decide +kernel
theorem dL_law_385 : decode cL_law 385 = .ok (.iadd, 1) := by decide +kernel
theorem dL_law_386 : decode cL_law 386 = .ok (.iaload, 1) := by decide +kernel
theorem dL_law_387 : decode cL_law 387 = .ok (.aload_n 0, 1) := by decide +kernel
theorem dL_law_388 : decode cL_law 388 = .ok (.iload_n 3, 1) := by decide +kernel
theorem dL_law_389 : decode cL_law 389 = .ok (.iconst 2, 1) := by decide +kernel
theorem dL_law_390 : decode cL_law 390 = .ok (.iadd, 1) := by decide +kernel
theorem dL_law_391 : decode cL_law 391 = .ok (.iaload, 1) := by decide +kernel
theorem dL_law_392 : decode cL_law 392 = .ok (.invokevirtual 38, 3) := by decide +kernel
theorem dL_law_395 : decode cL_law 395 = .ok (.if_icmp .eq 1021, 3) := by decide +kernel
theorem dL_law_398 : decode cL_law 398 = .ok (.iconst 0, 1) := by decide +kernel
theorem dL_law_399 : decode cL_law 399 = .ok (.ireturn, 1) := by decide +kernel
theorem dL_law_400 : decode cL_law 400 = .ok (.aload_n 1, 1) := by decide +kernel
theorem dL_law_401 : decode cL_law 401 = .ok (.aload_n 0, 1) := by decide +kernel
theorem dL_law_402 : decode cL_law 402 = .ok (.iload_n 3, 1) := by decide +kernel
theorem dL_law_403 : decode cL_law 403 = .ok (.iconst 1, 1) := by decide +kernel
theorem dL_law_404 : decode cL_law 404 = .ok (.iadd, 1) := by decide +kernel
theorem dL_law_405 : decode cL_law 405 = .ok (.iaload, 1) := by decide +kernel
theorem dL_law_406 : decode cL_law 406 = .ok (.aload_n 0, 1) := by decide +kernel
theorem dL_law_407 : decode cL_law 407 = .ok (.iload_n 3, 1) := by decide +kernel
theorem dL_law_408 : decode cL_law 408 = .ok (.iconst 2, 1) := by decide +kernel
theorem dL_law_409 : decode cL_law 409 = .ok (.iadd, 1) := by decide +kernel
theorem dL_law_410 : decode cL_law 410 = .ok (.iaload, 1) := by decide +kernel
theorem dL_law_411 : decode cL_law 411 = .ok (.invokevirtual 39, 3) := by decide +kernel
theorem dL_law_414 : decode cL_law 414 = .ok (.aload_n 2, 1) := by decide +kernel
theorem dL_law_415 : decode cL_law 415 = .ok (.aload_n 0, 1) := by decide +kernel
theorem dL_law_416 : decode cL_law 416 = .ok (.iload_n 3, 1) := by decide +kernel
theorem dL_law_417 : decode cL_law 417 = .ok (.iconst 1, 1) := by decide +kernel
theorem dL_law_418 : decode cL_law 418 = .ok (.iadd, 1) := by decide +kernel
theorem dL_law_419 : decode cL_law 419 = .ok (.iaload, 1) := by decide +kernel
theorem dL_law_420 : decode cL_law 420 = .ok (.aload_n 0, 1) := by decide +kernel
theorem dL_law_421 : decode cL_law 421 = .ok (.iload_n 3, 1) := by decide +kernel
theorem dL_law_422 : decode cL_law 422 = .ok (.iconst 2, 1) := by decide +kernel
theorem dL_law_423 : decode cL_law 423 = .ok (.iadd, 1) := by decide +kernel
theorem dL_law_424 : decode cL_law 424 = .ok (.iaload, 1) := by decide +kernel
theorem dL_law_425 : decode cL_law 425 = .ok (.invokevirtual 42, 3) := by decide +kernel
theorem dL_law_428 : decode cL_law 428 = .ok (.if_icmp .eq 988, 3) := by decide +kernel
theorem dL_law_431 : decode cL_law 431 = .ok (.iconst 0, 1) := by decide +kernel
theorem dL_law_432 : decode cL_law 432 = .ok (.ireturn, 1) := by decide +kernel
theorem dL_law_433 : decode cL_law 433 = .ok (.aload_n 1, 1) := by decide +kernel
theorem dL_law_434 : decode cL_law 434 = .ok (.aload_n 0, 1) := by decide +kernel
theorem dL_law_435 : decode cL_law 435 = .ok (.iload_n 3, 1) := by decide +kernel
theorem dL_law_436 : decode cL_law 436 = .ok (.iconst 1, 1) := by decide +kernel
theorem dL_law_437 : decode cL_law 437 = .ok (.iadd, 1) := by decide +kernel
theorem dL_law_438 : decode cL_law 438 = .ok (.iaload, 1) := by decide +kernel
theorem dL_law_439 : decode cL_law 439 = .ok (.aload_n 0, 1) := by decide +kernel
theorem dL_law_440 : decode cL_law 440 = .ok (.iload_n 3, 1) := by decide +kernel
theorem dL_law_441 : decode cL_law 441 = .ok (.iconst 2, 1) := by decide +kernel
theorem dL_law_442 : decode cL_law 442 = .ok (.iadd, 1) := by decide +kernel
theorem dL_law_443 : decode cL_law 443 = .ok (.iaload, 1) := by decide +kernel
theorem dL_law_444 : decode cL_law 444 = .ok (.aload_n 0, 1) := by decide +kernel
theorem dL_law_445 : decode cL_law 445 = .ok (.iload_n 3, 1) := by decide +kernel
theorem dL_law_446 : decode cL_law 446 = .ok (.iconst 3, 1) := by decide +kernel
theorem dL_law_447 : decode cL_law 447 = .ok (.iadd, 1) := by decide +kernel
theorem dL_law_448 : decode cL_law 448 = .ok (.iaload, 1) := by decide +kernel
theorem dL_law_449 : decode cL_law 449 = .ok (.invokevirtual 43, 3) := by decide +kernel
theorem dL_law_452 : decode cL_law 452 = .ok (.aload_n 2, 1) := by decide +kernel
theorem dL_law_453 : decode cL_law 453 = .ok (.aload_n 0, 1) := by decide +kernel
theorem dL_law_454 : decode cL_law 454 = .ok (.iload_n 3, 1) := by decide +kernel
theorem dL_law_455 : decode cL_law 455 = .ok (.iconst 1, 1) := by decide +kernel
theorem dL_law_456 : decode cL_law 456 = .ok (.iadd, 1) := by decide +kernel
theorem dL_law_457 : decode cL_law 457 = .ok (.iaload, 1) := by decide +kernel
theorem dL_law_458 : decode cL_law 458 = .ok (.aload_n 0, 1) := by decide +kernel
theorem dL_law_459 : decode cL_law 459 = .ok (.iload_n 3, 1) := by decide +kernel
theorem dL_law_460 : decode cL_law 460 = .ok (.iconst 2, 1) := by decide +kernel
theorem dL_law_461 : decode cL_law 461 = .ok (.iadd, 1) := by decide +kernel
theorem dL_law_462 : decode cL_law 462 = .ok (.iaload, 1) := by decide +kernel
theorem dL_law_463 : decode cL_law 463 = .ok (.aload_n 0, 1) := by decide +kernel
theorem dL_law_464 : decode cL_law 464 = .ok (.iload_n 3, 1) := by decide +kernel
theorem dL_law_465 : decode cL_law 465 = .ok (.iconst 3, 1) := by decide +kernel
theorem dL_law_466 : decode cL_law 466 = .ok (.iadd, 1) := by decide +kernel
theorem dL_law_467 : decode cL_law 467 = .ok (.iaload, 1) := by decide +kernel
theorem dL_law_468 : decode cL_law 468 = .ok (.invokevirtual 47, 3) := by decide +kernel
theorem dL_law_471 : decode cL_law 471 = .ok (.if_icmp .eq 945, 3) := by decide +kernel
theorem dL_law_474 : decode cL_law 474 = .ok (.iconst 0, 1) := by decide +kernel
theorem dL_law_475 : decode cL_law 475 = .ok (.ireturn, 1) := by decide +kernel
theorem dL_law_476 : decode cL_law 476 = .ok (.aload_n 1, 1) := by decide +kernel
theorem dL_law_477 : decode cL_law 477 = .ok (.aload_n 0, 1) := by decide +kernel
theorem dL_law_478 : decode cL_law 478 = .ok (.iload_n 3, 1) := by decide +kernel
theorem dL_law_479 : decode cL_law 479 = .ok (.iconst 1, 1) := by decide +kernel
theorem dL_law_480 : decode cL_law 480 = .ok (.iadd, 1) := by decide +kernel
theorem dL_law_481 : decode cL_law 481 = .ok (.iaload, 1) := by decide +kernel
theorem dL_law_482 : decode cL_law 482 = .ok (.aload_n 0, 1) := by decide +kernel
theorem dL_law_483 : decode cL_law 483 = .ok (.iload_n 3, 1) := by decide +kernel
theorem dL_law_484 : decode cL_law 484 = .ok (.iconst 2, 1) := by decide +kernel
theorem dL_law_485 : decode cL_law 485 = .ok (.iadd, 1) := by decide +kernel
theorem dL_law_486 : decode cL_law 486 = .ok (.iaload, 1) := by decide +kernel
theorem dL_law_487 : decode cL_law 487 = .ok (.invokevirtual 48, 3) := by decide +kernel
theorem dL_law_490 : decode cL_law 490 = .ok (.aload_n 2, 1) := by decide +kernel
theorem dL_law_491 : decode cL_law 491 = .ok (.aload_n 0, 1) := by decide +kernel
theorem dL_law_492 : decode cL_law 492 = .ok (.iload_n 3, 1) := by decide +kernel
theorem dL_law_493 : decode cL_law 493 = .ok (.iconst 1, 1) := by decide +kernel
theorem dL_law_494 : decode cL_law 494 = .ok (.iadd, 1) := by decide +kernel
theorem dL_law_495 : decode cL_law 495 = .ok (.iaload, 1) := by decide +kernel
theorem dL_law_496 : decode cL_law 496 = .ok (.aload_n 0, 1) := by decide +kernel
theorem dL_law_497 : decode cL_law 497 = .ok (.iload_n 3, 1) := by decide +kernel
theorem dL_law_498 : decode cL_law 498 = .ok (.iconst 2, 1) := by decide +kernel
theorem dL_law_499 : decode cL_law 499 = .ok (.iadd, 1) := by decide +kernel
theorem dL_law_500 : decode cL_law 500 = .ok (.iaload, 1) := by decide +kernel
theorem dL_law_501 : decode cL_law 501 = .ok (.invokevirtual 51, 3) := by decide +kernel
theorem dL_law_504 : decode cL_law 504 = .ok (.if_icmp .eq 912, 3) := by decide +kernel
theorem dL_law_507 : decode cL_law 507 = .ok (.iconst 0, 1) := by decide +kernel
theorem dL_law_508 : decode cL_law 508 = .ok (.ireturn, 1) := by decide +kernel
theorem dL_law_509 : decode cL_law 509 = .ok (.aload_n 1, 1) := by decide +kernel
theorem dL_law_510 : decode cL_law 510 = .ok (.aload_n 0, 1) := by decide +kernel
theorem dL_law_511 : decode cL_law 511 = .ok (.iload_n 3, 1) := by decide +kernel
theorem dL_law_512 : decode cL_law 512 = .ok (.iconst 1, 1) := by decide +kernel
theorem dL_law_513 : decode cL_law 513 = .ok (.iadd, 1) := by decide +kernel
theorem dL_law_514 : decode cL_law 514 = .ok (.iaload, 1) := by decide +kernel
theorem dL_law_515 : decode cL_law 515 = .ok (.invokevirtual 52, 3) := by decide +kernel
theorem dL_law_518 : decode cL_law 518 = .ok (.aload_n 2, 1) := by decide +kernel
theorem dL_law_519 : decode cL_law 519 = .ok (.aload_n 0, 1) := by decide +kernel
theorem dL_law_520 : decode cL_law 520 = .ok (.iload_n 3, 1) := by decide +kernel
theorem dL_law_521 : decode cL_law 521 = .ok (.iconst 1, 1) := by decide +kernel
theorem dL_law_522 : decode cL_law 522 = .ok (.iadd, 1) := by decide +kernel
theorem dL_law_523 : decode cL_law 523 = .ok (.iaload, 1) := by decide +kernel
theorem dL_law_524 : decode cL_law 524 = .ok (.invokevirtual 55, 3) := by decide +kernel
theorem dL_law_527 : decode cL_law 527 = .ok (.if_icmp .eq 889, 3) := by decide +kernel
theorem dL_law_530 : decode cL_law 530 = .ok (.iconst 0, 1) := by decide +kernel
theorem dL_law_531 : decode cL_law 531 = .ok (.ireturn, 1) := by decide +kernel
theorem dL_law_532 : decode cL_law 532 = .ok (.aload_n 1, 1) := by decide +kernel
theorem dL_law_533 : decode cL_law 533 = .ok (.aload_n 0, 1) := by decide +kernel
theorem dL_law_534 : decode cL_law 534 = .ok (.iload_n 3, 1) := by decide +kernel
theorem dL_law_535 : decode cL_law 535 = .ok (.iconst 1, 1) := by decide +kernel
theorem dL_law_536 : decode cL_law 536 = .ok (.iadd, 1) := by decide +kernel
theorem dL_law_537 : decode cL_law 537 = .ok (.iaload, 1) := by decide +kernel
theorem dL_law_538 : decode cL_law 538 = .ok (.invokevirtual 56, 3) := by decide +kernel
theorem dL_law_541 : decode cL_law 541 = .ok (.aload_n 2, 1) := by decide +kernel
theorem dL_law_542 : decode cL_law 542 = .ok (.aload_n 0, 1) := by decide +kernel
theorem dL_law_543 : decode cL_law 543 = .ok (.iload_n 3, 1) := by decide +kernel
theorem dL_law_544 : decode cL_law 544 = .ok (.iconst 1, 1) := by decide +kernel
theorem dL_law_545 : decode cL_law 545 = .ok (.iadd, 1) := by decide +kernel
theorem dL_law_546 : decode cL_law 546 = .ok (.iaload, 1) := by decide +kernel
theorem dL_law_547 : decode cL_law 547 = .ok (.invokevirtual 59, 3) := by decide +kernel
theorem dL_law_550 : decode cL_law 550 = .ok (.if_icmp .eq 866, 3) := by decide +kernel
theorem dL_law_553 : decode cL_law 553 = .ok (.iconst 0, 1) := by decide +kernel
theorem dL_law_554 : decode cL_law 554 = .ok (.ireturn, 1) := by decide +kernel
theorem dL_law_555 : decode cL_law 555 = .ok (.aload_n 1, 1) := by decide +kernel
theorem dL_law_556 : decode cL_law 556 = .ok (.aload_n 0, 1) := by decide +kernel
theorem dL_law_557 : decode cL_law 557 = .ok (.iload_n 3, 1) := by decide +kernel
theorem dL_law_558 : decode cL_law 558 = .ok (.iconst 1, 1) := by decide +kernel
theorem dL_law_559 : decode cL_law 559 = .ok (.iadd, 1) := by decide +kernel
theorem dL_law_560 : decode cL_law 560 = .ok (.iaload, 1) := by decide +kernel
theorem dL_law_561 : decode cL_law 561 = .ok (.aload_n 0, 1) := by decide +kernel
theorem dL_law_562 : decode cL_law 562 = .ok (.iload_n 3, 1) := by decide +kernel
theorem dL_law_563 : decode cL_law 563 = .ok (.iconst 2, 1) := by decide +kernel
theorem dL_law_564 : decode cL_law 564 = .ok (.iadd, 1) := by decide +kernel
theorem dL_law_565 : decode cL_law 565 = .ok (.iaload, 1) := by decide +kernel
theorem dL_law_566 : decode cL_law 566 = .ok (.aload_n 0, 1) := by decide +kernel
theorem dL_law_567 : decode cL_law 567 = .ok (.iload_n 3, 1) := by decide +kernel
theorem dL_law_568 : decode cL_law 568 = .ok (.iconst 3, 1) := by decide +kernel
theorem dL_law_569 : decode cL_law 569 = .ok (.iadd, 1) := by decide +kernel
theorem dL_law_570 : decode cL_law 570 = .ok (.iaload, 1) := by decide +kernel
theorem dL_law_571 : decode cL_law 571 = .ok (.invokevirtual 60, 3) := by decide +kernel
theorem dL_law_574 : decode cL_law 574 = .ok (.aload_n 2, 1) := by decide +kernel
theorem dL_law_575 : decode cL_law 575 = .ok (.aload_n 0, 1) := by decide +kernel
theorem dL_law_576 : decode cL_law 576 = .ok (.iload_n 3, 1) := by decide +kernel
theorem dL_law_577 : decode cL_law 577 = .ok (.iconst 1, 1) := by decide +kernel
theorem dL_law_578 : decode cL_law 578 = .ok (.iadd, 1) := by decide +kernel
theorem dL_law_579 : decode cL_law 579 = .ok (.iaload, 1) := by decide +kernel
theorem dL_law_580 : decode cL_law 580 = .ok (.aload_n 0, 1) := by decide +kernel
theorem dL_law_581 : decode cL_law 581 = .ok (.iload_n 3, 1) := by decide +kernel
theorem dL_law_582 : decode cL_law 582 = .ok (.iconst 2, 1) := by decide +kernel
theorem dL_law_583 : decode cL_law 583 = .ok (.iadd, 1) := by decide +kernel
theorem dL_law_584 : decode cL_law 584 = .ok (.iaload, 1) := by decide +kernel
theorem dL_law_585 : decode cL_law 585 = .ok (.aload_n 0, 1) := by decide +kernel
theorem dL_law_586 : decode cL_law 586 = .ok (.iload_n 3, 1) := by decide +kernel
theorem dL_law_587 : decode cL_law 587 = .ok (.iconst 3, 1) := by decide +kernel
theorem dL_law_588 : decode cL_law 588 = .ok (.iadd, 1) := by decide +kernel
theorem dL_law_589 : decode cL_law 589 = .ok (.iaload, 1) := by decide +kernel
theorem dL_law_590 : decode cL_law 590 = .ok (.invokevirtual 63, 3) := by decide +kernel
theorem dL_law_593 : decode cL_law 593 = .ok (.if_icmp .eq 823, 3) := by decide +kernel
theorem dL_law_596 : decode cL_law 596 = .ok (.iconst 0, 1) := by decide +kernel
theorem dL_law_597 : decode cL_law 597 = .ok (.ireturn, 1) := by decide +kernel
theorem dL_law_598 : decode cL_law 598 = .ok (.aload_n 1, 1) := by decide +kernel
theorem dL_law_599 : decode cL_law 599 = .ok (.aload_n 0, 1) := by decide +kernel
theorem dL_law_600 : decode cL_law 600 = .ok (.iload_n 3, 1) := by decide +kernel
theorem dL_law_601 : decode cL_law 601 = .ok (.iconst 1, 1) := by decide +kernel
theorem dL_law_602 : decode cL_law 602 = .ok (.iadd, 1) := by decide +kernel
theorem dL_law_603 : decode cL_law 603 = .ok (.iaload, 1) := by decide +kernel
theorem dL_law_604 : decode cL_law 604 = .ok (.invokevirtual 64, 3) := by decide +kernel
theorem dL_law_607 : decode cL_law 607 = .ok (.aload_n 2, 1) := by decide +kernel
theorem dL_law_608 : decode cL_law 608 = .ok (.aload_n 0, 1) := by decide +kernel
theorem dL_law_609 : decode cL_law 609 = .ok (.iload_n 3, 1) := by decide +kernel
theorem dL_law_610 : decode cL_law 610 = .ok (.iconst 1, 1) := by decide +kernel
theorem dL_law_611 : decode cL_law 611 = .ok (.iadd, 1) := by decide +kernel
theorem dL_law_612 : decode cL_law 612 = .ok (.iaload, 1) := by decide +kernel
theorem dL_law_613 : decode cL_law 613 = .ok (.invokevirtual 67, 3) := by decide +kernel
theorem dL_law_616 : decode cL_law 616 = .ok (.if_icmp .eq 800, 3) := by decide +kernel
theorem dL_law_619 : decode cL_law 619 = .ok (.iconst 0, 1) := by decide +kernel
theorem dL_law_620 : decode cL_law 620 = .ok (.ireturn, 1) := by decide +kernel
theorem dL_law_621 : decode cL_law 621 = .ok (.aload_n 1, 1) := by decide +kernel
theorem dL_law_622 : decode cL_law 622 = .ok (.invokevirtual 68, 3) := by decide +kernel
theorem dL_law_625 : decode cL_law 625 = .ok (.aload_n 2, 1) := by decide +kernel
theorem dL_law_626 : decode cL_law 626 = .ok (.invokevirtual 72, 3) := by decide +kernel
theorem dL_law_629 : decode cL_law 629 = .ok (.if_icmp .eq 787, 3) := by decide +kernel
theorem dL_law_632 : decode cL_law 632 = .ok (.iconst 0, 1) := by decide +kernel
theorem dL_law_633 : decode cL_law 633 = .ok (.ireturn, 1) := by decide +kernel
theorem dL_law_634 : decode cL_law 634 = .ok (.aload_n 1, 1) := by decide +kernel
theorem dL_law_635 : decode cL_law 635 = .ok (.aload_n 0, 1) := by decide +kernel
theorem dL_law_636 : decode cL_law 636 = .ok (.iload_n 3, 1) := by decide +kernel
theorem dL_law_637 : decode cL_law 637 = .ok (.iconst 1, 1) := by decide +kernel
theorem dL_law_638 : decode cL_law 638 = .ok (.iadd, 1) := by decide +kernel
theorem dL_law_639 : decode cL_law 639 = .ok (.iaload, 1) := by decide +kernel
theorem dL_law_640 : decode cL_law 640 = .ok (.aload_n 0, 1) := by decide +kernel
theorem dL_law_641 : decode cL_law 641 = .ok (.iload_n 3, 1) := by decide +kernel
theorem dL_law_642 : decode cL_law 642 = .ok (.iconst 2, 1) := by decide +kernel
theorem dL_law_643 : decode cL_law 643 = .ok (.iadd, 1) := by decide +kernel
theorem dL_law_644 : decode cL_law 644 = .ok (.iaload, 1) := by decide +kernel
theorem dL_law_645 : decode cL_law 645 = .ok (.invokevirtual 73, 3) := by decide +kernel
theorem dL_law_648 : decode cL_law 648 = .ok (.aload_n 2, 1) := by decide +kernel
theorem dL_law_649 : decode cL_law 649 = .ok (.aload_n 0, 1) := by decide +kernel
theorem dL_law_650 : decode cL_law 650 = .ok (.iload_n 3, 1) := by decide +kernel
theorem dL_law_651 : decode cL_law 651 = .ok (.iconst 1, 1) := by decide +kernel
theorem dL_law_652 : decode cL_law 652 = .ok (.iadd, 1) := by decide +kernel
theorem dL_law_653 : decode cL_law 653 = .ok (.iaload, 1) := by decide +kernel
theorem dL_law_654 : decode cL_law 654 = .ok (.aload_n 0, 1) := by decide +kernel
theorem dL_law_655 : decode cL_law 655 = .ok (.iload_n 3, 1) := by decide +kernel
theorem dL_law_656 : decode cL_law 656 = .ok (.iconst 2, 1) := by decide +kernel
theorem dL_law_657 : decode cL_law 657 = .ok (.iadd, 1) := by decide +kernel
theorem dL_law_658 : decode cL_law 658 = .ok (.iaload, 1) := by decide +kernel
theorem dL_law_659 : decode cL_law 659 = .ok (.invokevirtual 76, 3) := by decide +kernel
theorem dL_law_662 : decode cL_law 662 = .ok (.if_icmp .eq 754, 3) := by decide +kernel
theorem dL_law_665 : decode cL_law 665 = .ok (.iconst 0, 1) := by decide +kernel
theorem dL_law_666 : decode cL_law 666 = .ok (.ireturn, 1) := by decide +kernel
theorem dL_law_667 : decode cL_law 667 = .ok (.aload_n 1, 1) := by decide +kernel
theorem dL_law_668 : decode cL_law 668 = .ok (.aload_n 0, 1) := by decide +kernel
theorem dL_law_669 : decode cL_law 669 = .ok (.iload_n 3, 1) := by decide +kernel
theorem dL_law_670 : decode cL_law 670 = .ok (.iconst 1, 1) := by decide +kernel
theorem dL_law_671 : decode cL_law 671 = .ok (.iadd, 1) := by decide +kernel
theorem dL_law_672 : decode cL_law 672 = .ok (.iaload, 1) := by decide +kernel
theorem dL_law_673 : decode cL_law 673 = .ok (.aload_n 0, 1) := by decide +kernel
theorem dL_law_674 : decode cL_law 674 = .ok (.iload_n 3, 1) := by decide +kernel
theorem dL_law_675 : decode cL_law 675 = .ok (.iconst 2, 1) := by decide +kernel
theorem dL_law_676 : decode cL_law 676 = .ok (.iadd, 1) := by decide +kernel
theorem dL_law_677 : decode cL_law 677 = .ok (.iaload, 1) := by decide +kernel
theorem dL_law_678 : decode cL_law 678 = .ok (.invokevirtual 77, 3) := by decide +kernel
theorem dL_law_681 : decode cL_law 681 = .ok (.aload_n 2, 1) := by decide +kernel
theorem dL_law_682 : decode cL_law 682 = .ok (.aload_n 0, 1) := by decide +kernel
theorem dL_law_683 : decode cL_law 683 = .ok (.iload_n 3, 1) := by decide +kernel
theorem dL_law_684 : decode cL_law 684 = .ok (.iconst 1, 1) := by decide +kernel
theorem dL_law_685 : decode cL_law 685 = .ok (.iadd, 1) := by decide +kernel
theorem dL_law_686 : decode cL_law 686 = .ok (.iaload, 1) := by decide +kernel
theorem dL_law_687 : decode cL_law 687 = .ok (.aload_n 0, 1) := by decide +kernel
theorem dL_law_688 : decode cL_law 688 = .ok (.iload_n 3, 1) := by decide +kernel
theorem dL_law_689 : decode cL_law 689 = .ok (.iconst 2, 1) := by decide +kernel
theorem dL_law_690 : decode cL_law 690 = .ok (.iadd, 1) := by decide +kernel
theorem dL_law_691 : decode cL_law 691 = .ok (.iaload, 1) := by decide +kernel
theorem dL_law_692 : decode cL_law 692 = .ok (.invokevirtual 80, 3) := by decide +kernel
theorem dL_law_695 : decode cL_law 695 = .ok (.if_icmp .eq 721, 3) := by decide +kernel
theorem dL_law_698 : decode cL_law 698 = .ok (.iconst 0, 1) := by decide +kernel
theorem dL_law_699 : decode cL_law 699 = .ok (.ireturn, 1) := by decide +kernel
theorem dL_law_700 : decode cL_law 700 = .ok (.aload_n 1, 1) := by decide +kernel
theorem dL_law_701 : decode cL_law 701 = .ok (.aload_n 0, 1) := by decide +kernel
theorem dL_law_702 : decode cL_law 702 = .ok (.iload_n 3, 1) := by decide +kernel
theorem dL_law_703 : decode cL_law 703 = .ok (.iconst 1, 1) := by decide +kernel
theorem dL_law_704 : decode cL_law 704 = .ok (.iadd, 1) := by decide +kernel
theorem dL_law_705 : decode cL_law 705 = .ok (.iaload, 1) := by decide +kernel
theorem dL_law_706 : decode cL_law 706 = .ok (.aload_n 0, 1) := by decide +kernel
theorem dL_law_707 : decode cL_law 707 = .ok (.iload_n 3, 1) := by decide +kernel
theorem dL_law_708 : decode cL_law 708 = .ok (.iconst 2, 1) := by decide +kernel
theorem dL_law_709 : decode cL_law 709 = .ok (.iadd, 1) := by decide +kernel
theorem dL_law_710 : decode cL_law 710 = .ok (.iaload, 1) := by decide +kernel
theorem dL_law_711 : decode cL_law 711 = .ok (.invokevirtual 81, 3) := by decide +kernel
theorem dL_law_714 : decode cL_law 714 = .ok (.aload_n 2, 1) := by decide +kernel
theorem dL_law_715 : decode cL_law 715 = .ok (.aload_n 0, 1) := by decide +kernel
theorem dL_law_716 : decode cL_law 716 = .ok (.iload_n 3, 1) := by decide +kernel
theorem dL_law_717 : decode cL_law 717 = .ok (.iconst 1, 1) := by decide +kernel
theorem dL_law_718 : decode cL_law 718 = .ok (.iadd, 1) := by decide +kernel
theorem dL_law_719 : decode cL_law 719 = .ok (.iaload, 1) := by decide +kernel
theorem dL_law_720 : decode cL_law 720 = .ok (.aload_n 0, 1) := by decide +kernel
theorem dL_law_721 : decode cL_law 721 = .ok (.iload_n 3, 1) := by decide +kernel
theorem dL_law_722 : decode cL_law 722 = .ok (.iconst 2, 1) := by decide +kernel
theorem dL_law_723 : decode cL_law 723 = .ok (.iadd, 1) := by decide +kernel
theorem dL_law_724 : decode cL_law 724 = .ok (.iaload, 1) := by decide +kernel
theorem dL_law_725 : decode cL_law 725 = .ok (.invokevirtual 84, 3) := by decide +kernel
theorem dL_law_728 : decode cL_law 728 = .ok (.if_icmp .eq 688, 3) := by decide +kernel
theorem dL_law_731 : decode cL_law 731 = .ok (.iconst 0, 1) := by decide +kernel
theorem dL_law_732 : decode cL_law 732 = .ok (.ireturn, 1) := by decide +kernel
theorem dL_law_733 : decode cL_law 733 = .ok (.aload_n 1, 1) := by decide +kernel
theorem dL_law_734 : decode cL_law 734 = .ok (.aload_n 0, 1) := by decide +kernel
theorem dL_law_735 : decode cL_law 735 = .ok (.iload_n 3, 1) := by decide +kernel
theorem dL_law_736 : decode cL_law 736 = .ok (.iconst 1, 1) := by decide +kernel
theorem dL_law_737 : decode cL_law 737 = .ok (.iadd, 1) := by decide +kernel
theorem dL_law_738 : decode cL_law 738 = .ok (.iaload, 1) := by decide +kernel
theorem dL_law_739 : decode cL_law 739 = .ok (.aload_n 0, 1) := by decide +kernel
theorem dL_law_740 : decode cL_law 740 = .ok (.iload_n 3, 1) := by decide +kernel
theorem dL_law_741 : decode cL_law 741 = .ok (.iconst 2, 1) := by decide +kernel
theorem dL_law_742 : decode cL_law 742 = .ok (.iadd, 1) := by decide +kernel
theorem dL_law_743 : decode cL_law 743 = .ok (.iaload, 1) := by decide +kernel
theorem dL_law_744 : decode cL_law 744 = .ok (.invokevirtual 85, 3) := by decide +kernel
theorem dL_law_747 : decode cL_law 747 = .ok (.aload_n 2, 1) := by decide +kernel
theorem dL_law_748 : decode cL_law 748 = .ok (.aload_n 0, 1) := by decide +kernel
theorem dL_law_749 : decode cL_law 749 = .ok (.iload_n 3, 1) := by decide +kernel
theorem dL_law_750 : decode cL_law 750 = .ok (.iconst 1, 1) := by decide +kernel
theorem dL_law_751 : decode cL_law 751 = .ok (.iadd, 1) := by decide +kernel
theorem dL_law_752 : decode cL_law 752 = .ok (.iaload, 1) := by decide +kernel
theorem dL_law_753 : decode cL_law 753 = .ok (.aload_n 0, 1) := by decide +kernel
theorem dL_law_754 : decode cL_law 754 = .ok (.iload_n 3, 1) := by decide +kernel
theorem dL_law_755 : decode cL_law 755 = .ok (.iconst 2, 1) := by decide +kernel
theorem dL_law_756 : decode cL_law 756 = .ok (.iadd, 1) := by decide +kernel
theorem dL_law_757 : decode cL_law 757 = .ok (.iaload, 1) := by decide +kernel
theorem dL_law_758 : decode cL_law 758 = .ok (.invokevirtual 88, 3) := by decide +kernel
theorem dL_law_761 : decode cL_law 761 = .ok (.if_icmp .eq 655, 3) := by decide +kernel
theorem dL_law_764 : decode cL_law 764 = .ok (.iconst 0, 1) := by decide +kernel
theorem dL_law_765 : decode cL_law 765 = .ok (.ireturn, 1) := by decide +kernel
theorem dL_law_766 : decode cL_law 766 = .ok (.aload_n 1, 1) := by decide +kernel
theorem dL_law_767 : decode cL_law 767 = .ok (.aload_n 0, 1) := by decide +kernel
theorem dL_law_768 : decode cL_law 768 = .ok (.iload_n 3, 1) := by decide +kernel
theorem dL_law_769 : decode cL_law 769 = .ok (.iconst 1, 1) := by decide +kernel
theorem dL_law_770 : decode cL_law 770 = .ok (.iadd, 1) := by decide +kernel
theorem dL_law_771 : decode cL_law 771 = .ok (.iaload, 1) := by decide +kernel
theorem dL_law_772 : decode cL_law 772 = .ok (.aload_n 0, 1) := by decide +kernel
theorem dL_law_773 : decode cL_law 773 = .ok (.iload_n 3, 1) := by decide +kernel
theorem dL_law_774 : decode cL_law 774 = .ok (.iconst 2, 1) := by decide +kernel
theorem dL_law_775 : decode cL_law 775 = .ok (.iadd, 1) := by decide +kernel
theorem dL_law_776 : decode cL_law 776 = .ok (.iaload, 1) := by decide +kernel
theorem dL_law_777 : decode cL_law 777 = .ok (.invokevirtual 89, 3) := by decide +kernel
theorem dL_law_780 : decode cL_law 780 = .ok (.aload_n 2, 1) := by decide +kernel
theorem dL_law_781 : decode cL_law 781 = .ok (.aload_n 0, 1) := by decide +kernel
theorem dL_law_782 : decode cL_law 782 = .ok (.iload_n 3, 1) := by decide +kernel
theorem dL_law_783 : decode cL_law 783 = .ok (.iconst 1, 1) := by decide +kernel
theorem dL_law_784 : decode cL_law 784 = .ok (.iadd, 1) := by decide +kernel
theorem dL_law_785 : decode cL_law 785 = .ok (.iaload, 1) := by decide +kernel
theorem dL_law_786 : decode cL_law 786 = .ok (.aload_n 0, 1) := by decide +kernel
theorem dL_law_787 : decode cL_law 787 = .ok (.iload_n 3, 1) := by decide +kernel
theorem dL_law_788 : decode cL_law 788 = .ok (.iconst 2, 1) := by decide +kernel
theorem dL_law_789 : decode cL_law 789 = .ok (.iadd, 1) := by decide +kernel
theorem dL_law_790 : decode cL_law 790 = .ok (.iaload, 1) := by decide +kernel
theorem dL_law_791 : decode cL_law 791 = .ok (.invokevirtual 92, 3) := by decide +kernel
theorem dL_law_794 : decode cL_law 794 = .ok (.if_icmp .eq 622, 3) := by decide +kernel
theorem dL_law_797 : decode cL_law 797 = .ok (.iconst 0, 1) := by decide +kernel
theorem dL_law_798 : decode cL_law 798 = .ok (.ireturn, 1) := by decide +kernel
theorem dL_law_799 : decode cL_law 799 = .ok (.aload_n 1, 1) := by decide +kernel
theorem dL_law_800 : decode cL_law 800 = .ok (.aload_n 0, 1) := by decide +kernel
theorem dL_law_801 : decode cL_law 801 = .ok (.iload_n 3, 1) := by decide +kernel
theorem dL_law_802 : decode cL_law 802 = .ok (.iconst 1, 1) := by decide +kernel
theorem dL_law_803 : decode cL_law 803 = .ok (.iadd, 1) := by decide +kernel
theorem dL_law_804 : decode cL_law 804 = .ok (.iaload, 1) := by decide +kernel
theorem dL_law_805 : decode cL_law 805 = .ok (.aload_n 0, 1) := by decide +kernel
theorem dL_law_806 : decode cL_law 806 = .ok (.iload_n 3, 1) := by decide +kernel
theorem dL_law_807 : decode cL_law 807 = .ok (.iconst 2, 1) := by decide +kernel
theorem dL_law_808 : decode cL_law 808 = .ok (.iadd, 1) := by decide +kernel
theorem dL_law_809 : decode cL_law 809 = .ok (.iaload, 1) := by decide +kernel
theorem dL_law_810 : decode cL_law 810 = .ok (.invokevirtual 93, 3) := by decide +kernel
theorem dL_law_813 : decode cL_law 813 = .ok (.aload_n 2, 1) := by decide +kernel
theorem dL_law_814 : decode cL_law 814 = .ok (.aload_n 0, 1) := by decide +kernel
theorem dL_law_815 : decode cL_law 815 = .ok (.iload_n 3, 1) := by decide +kernel
theorem dL_law_816 : decode cL_law 816 = .ok (.iconst 1, 1) := by decide +kernel
theorem dL_law_817 : decode cL_law 817 = .ok (.iadd, 1) := by decide +kernel
theorem dL_law_818 : decode cL_law 818 = .ok (.iaload, 1) := by decide +kernel
theorem dL_law_819 : decode cL_law 819 = .ok (.aload_n 0, 1) := by decide +kernel
theorem dL_law_820 : decode cL_law 820 = .ok (.iload_n 3, 1) := by decide +kernel
theorem dL_law_821 : decode cL_law 821 = .ok (.iconst 2, 1) := by decide +kernel
theorem dL_law_822 : decode cL_law 822 = .ok (.iadd, 1) := by decide +kernel
theorem dL_law_823 : decode cL_law 823 = .ok (.iaload, 1) := by decide +kernel
theorem dL_law_824 : decode cL_law 824 = .ok (.invokevirtual 96, 3) := by decide +kernel
theorem dL_law_827 : decode cL_law 827 = .ok (.if_icmp .eq 589, 3) := by decide +kernel
theorem dL_law_830 : decode cL_law 830 = .ok (.iconst 0, 1) := by decide +kernel
theorem dL_law_831 : decode cL_law 831 = .ok (.ireturn, 1) := by decide +kernel
theorem dL_law_832 : decode cL_law 832 = .ok (.aload_n 1, 1) := by decide +kernel
theorem dL_law_833 : decode cL_law 833 = .ok (.aload_n 0, 1) := by decide +kernel
theorem dL_law_834 : decode cL_law 834 = .ok (.iload_n 3, 1) := by decide +kernel
theorem dL_law_835 : decode cL_law 835 = .ok (.iconst 1, 1) := by decide +kernel
theorem dL_law_836 : decode cL_law 836 = .ok (.iadd, 1) := by decide +kernel
theorem dL_law_837 : decode cL_law 837 = .ok (.iaload, 1) := by decide +kernel
theorem dL_law_838 : decode cL_law 838 = .ok (.invokevirtual 97, 3) := by decide +kernel
theorem dL_law_841 : decode cL_law 841 = .ok (.aload_n 2, 1) := by decide +kernel
theorem dL_law_842 : decode cL_law 842 = .ok (.aload_n 0, 1) := by decide +kernel
theorem dL_law_843 : decode cL_law 843 = .ok (.iload_n 3, 1) := by decide +kernel
theorem dL_law_844 : decode cL_law 844 = .ok (.iconst 1, 1) := by decide +kernel
theorem dL_law_845 : decode cL_law 845 = .ok (.iadd, 1) := by decide +kernel
theorem dL_law_846 : decode cL_law 846 = .ok (.iaload, 1) := by decide +kernel
theorem dL_law_847 : decode cL_law 847 = .ok (.invokevirtual 100, 3) := by decide +kernel
theorem dL_law_850 : decode cL_law 850 = .ok (.if_icmp .eq 566, 3) := by decide +kernel
theorem dL_law_853 : decode cL_law 853 = .ok (.iconst 0, 1) := by decide +kernel
theorem dL_law_854 : decode cL_law 854 = .ok (.ireturn, 1) := by decide +kernel
theorem dL_law_855 : decode cL_law 855 = .ok (.aload_n 1, 1) := by decide +kernel
theorem dL_law_856 : decode cL_law 856 = .ok (.aload_n 0, 1) := by decide +kernel
theorem dL_law_857 : decode cL_law 857 = .ok (.iload_n 3, 1) := by decide +kernel
theorem dL_law_858 : decode cL_law 858 = .ok (.iconst 1, 1) := by decide +kernel
theorem dL_law_859 : decode cL_law 859 = .ok (.iadd, 1) := by decide +kernel
theorem dL_law_860 : decode cL_law 860 = .ok (.iaload, 1) := by decide +kernel
theorem dL_law_861 : decode cL_law 861 = .ok (.aload_n 0, 1) := by decide +kernel
theorem dL_law_862 : decode cL_law 862 = .ok (.iload_n 3, 1) := by decide +kernel
theorem dL_law_863 : decode cL_law 863 = .ok (.iconst 2, 1) := by decide +kernel
theorem dL_law_864 : decode cL_law 864 = .ok (.iadd, 1) := by decide +kernel
theorem dL_law_865 : decode cL_law 865 = .ok (.iaload, 1) := by decide +kernel
theorem dL_law_866 : decode cL_law 866 = .ok (.invokevirtual 101, 3) := by decide +kernel
theorem dL_law_869 : decode cL_law 869 = .ok (.aload_n 2, 1) := by decide +kernel
theorem dL_law_870 : decode cL_law 870 = .ok (.aload_n 0, 1) := by decide +kernel
theorem dL_law_871 : decode cL_law 871 = .ok (.iload_n 3, 1) := by decide +kernel
theorem dL_law_872 : decode cL_law 872 = .ok (.iconst 1, 1) := by decide +kernel
theorem dL_law_873 : decode cL_law 873 = .ok (.iadd, 1) := by decide +kernel
theorem dL_law_874 : decode cL_law 874 = .ok (.iaload, 1) := by decide +kernel
theorem dL_law_875 : decode cL_law 875 = .ok (.aload_n 0, 1) := by decide +kernel
theorem dL_law_876 : decode cL_law 876 = .ok (.iload_n 3, 1) := by decide +kernel
theorem dL_law_877 : decode cL_law 877 = .ok (.iconst 2, 1) := by decide +kernel
theorem dL_law_878 : decode cL_law 878 = .ok (.iadd, 1) := by decide +kernel
theorem dL_law_879 : decode cL_law 879 = .ok (.iaload, 1) := by decide +kernel
theorem dL_law_880 : decode cL_law 880 = .ok (.invokevirtual 104, 3) := by decide +kernel
theorem dL_law_883 : decode cL_law 883 = .ok (.if_icmp .eq 533, 3) := by decide +kernel
theorem dL_law_886 : decode cL_law 886 = .ok (.iconst 0, 1) := by decide +kernel
theorem dL_law_887 : decode cL_law 887 = .ok (.ireturn, 1) := by decide +kernel
theorem dL_law_888 : decode cL_law 888 = .ok (.aload_n 1, 1) := by decide +kernel
theorem dL_law_889 : decode cL_law 889 = .ok (.aload_n 0, 1) := by decide +kernel
theorem dL_law_890 : decode cL_law 890 = .ok (.iload_n 3, 1) := by decide +kernel
theorem dL_law_891 : decode cL_law 891 = .ok (.iconst 1, 1) := by decide +kernel
theorem dL_law_892 : decode cL_law 892 = .ok (.iadd, 1) := by decide +kernel
theorem dL_law_893 : decode cL_law 893 = .ok (.iaload, 1) := by decide +kernel
theorem dL_law_894 : decode cL_law 894 = .ok (.aload_n 0, 1) := by decide +kernel
theorem dL_law_895 : decode cL_law 895 = .ok (.iload_n 3, 1) := by decide +kernel
theorem dL_law_896 : decode cL_law 896 = .ok (.iconst 2, 1) := by decide +kernel
theorem dL_law_897 : decode cL_law 897 = .ok (.iadd, 1) := by decide +kernel
theorem dL_law_898 : decode cL_law 898 = .ok (.iaload, 1) := by decide +kernel
theorem dL_law_899 : decode cL_law 899 = .ok (.invokevirtual 105, 3) := by decide +kernel
theorem dL_law_902 : decode cL_law 902 = .ok (.aload_n 2, 1) := by decide +kernel
theorem dL_law_903 : decode cL_law 903 = .ok (.aload_n 0, 1) := by decide +kernel
theorem dL_law_904 : decode cL_law 904 = .ok (.iload_n 3, 1) := by decide +kernel
theorem dL_law_905 : decode cL_law 905 = .ok (.iconst 1, 1) := by decide +kernel
theorem dL_law_906 : decode cL_law 906 = .ok (.iadd, 1) := by decide +kernel
theorem dL_law_907 : decode cL_law 907 = .ok (.iaload, 1) := by decide +kernel
theorem dL_law_908 : decode cL_law 908 = .ok (.aload_n 0, 1) := by decide +kernel
theorem dL_law_909 : decode cL_law 909 = .ok (.iload_n 3, 1) := by decide +kernel
theorem dL_law_910 : decode cL_law 910 = .ok (.iconst 2, 1) := by decide +kernel
theorem dL_law_911 : decode cL_law 911 = .ok (.iadd, 1) := by decide +kernel
theorem dL_law_912 : decode cL_law 912 = .ok (.iaload, 1) := by decide +kernel
theorem dL_law_913 : decode cL_law 913 = .ok (.invokevirtual 108, 3) := by decide +kernel
theorem dL_law_916 : decode cL_law 916 = .ok (.if_icmp .eq 500, 3) := by decide +kernel
theorem dL_law_919 : decode cL_law 919 = .ok (.iconst 0, 1) := by decide +kernel
theorem dL_law_920 : decode cL_law 920 = .ok (.ireturn, 1) := by decide +kernel
theorem dL_law_921 : decode cL_law 921 = .ok (.aload_n 1, 1) := by decide +kernel
theorem dL_law_922 : decode cL_law 922 = .ok (.aload_n 0, 1) := by decide +kernel
theorem dL_law_923 : decode cL_law 923 = .ok (.iload_n 3, 1) := by decide +kernel
theorem dL_law_924 : decode cL_law 924 = .ok (.iconst 1, 1) := by decide +kernel
theorem dL_law_925 : decode cL_law 925 = .ok (.iadd, 1) := by decide +kernel
theorem dL_law_926 : decode cL_law 926 = .ok (.iaload, 1) := by decide +kernel
theorem dL_law_927 : decode cL_law 927 = .ok (.invokevirtual 109, 3) := by decide +kernel
theorem dL_law_930 : decode cL_law 930 = .ok (.aload_n 2, 1) := by decide +kernel
theorem dL_law_931 : decode cL_law 931 = .ok (.aload_n 0, 1) := by decide +kernel
theorem dL_law_932 : decode cL_law 932 = .ok (.iload_n 3, 1) := by decide +kernel
theorem dL_law_933 : decode cL_law 933 = .ok (.iconst 1, 1) := by decide +kernel
theorem dL_law_934 : decode cL_law 934 = .ok (.iadd, 1) := by decide +kernel
theorem dL_law_935 : decode cL_law 935 = .ok (.iaload, 1) := by decide +kernel
theorem dL_law_936 : decode cL_law 936 = .ok (.invokevirtual 112, 3) := by decide +kernel
theorem dL_law_939 : decode cL_law 939 = .ok (.if_icmp .eq 477, 3) := by decide +kernel
theorem dL_law_942 : decode cL_law 942 = .ok (.iconst 0, 1) := by decide +kernel
theorem dL_law_943 : decode cL_law 943 = .ok (.ireturn, 1) := by decide +kernel
theorem dL_law_944 : decode cL_law 944 = .ok (.aload_n 1, 1) := by decide +kernel
theorem dL_law_945 : decode cL_law 945 = .ok (.aload_n 0, 1) := by decide +kernel
theorem dL_law_946 : decode cL_law 946 = .ok (.iload_n 3, 1) := by decide +kernel
theorem dL_law_947 : decode cL_law 947 = .ok (.iconst 1, 1) := by decide +kernel
theorem dL_law_948 : decode cL_law 948 = .ok (.iadd, 1) := by decide +kernel
theorem dL_law_949 : decode cL_law 949 = .ok (.iaload, 1) := by decide +kernel
theorem dL_law_950 : decode cL_law 950 = .ok (.aload_n 0, 1) := by decide +kernel
theorem dL_law_951 : decode cL_law 951 = .ok (.iload_n 3, 1) := by decide +kernel
theorem dL_law_952 : decode cL_law 952 = .ok (.iconst 2, 1) := by decide +kernel
theorem dL_law_953 : decode cL_law 953 = .ok (.iadd, 1) := by decide +kernel
theorem dL_law_954 : decode cL_law 954 = .ok (.iaload, 1) := by decide +kernel
theorem dL_law_955 : decode cL_law 955 = .ok (.aload_n 0, 1) := by decide +kernel
theorem dL_law_956 : decode cL_law 956 = .ok (.iload_n 3, 1) := by decide +kernel
theorem dL_law_957 : decode cL_law 957 = .ok (.iconst 3, 1) := by decide +kernel
theorem dL_law_958 : decode cL_law 958 = .ok (.iadd, 1) := by decide +kernel
theorem dL_law_959 : decode cL_law 959 = .ok (.iaload, 1) := by decide +kernel
theorem dL_law_960 : decode cL_law 960 = .ok (.invokevirtual 113, 3) := by decide +kernel
theorem dL_law_963 : decode cL_law 963 = .ok (.aload_n 2, 1) := by decide +kernel
theorem dL_law_964 : decode cL_law 964 = .ok (.aload_n 0, 1) := by decide +kernel
theorem dL_law_965 : decode cL_law 965 = .ok (.iload_n 3, 1) := by decide +kernel
theorem dL_law_966 : decode cL_law 966 = .ok (.iconst 1, 1) := by decide +kernel
theorem dL_law_967 : decode cL_law 967 = .ok (.iadd, 1) := by decide +kernel
theorem dL_law_968 : decode cL_law 968 = .ok (.iaload, 1) := by decide +kernel
theorem dL_law_969 : decode cL_law 969 = .ok (.aload_n 0, 1) := by decide +kernel
theorem dL_law_970 : decode cL_law 970 = .ok (.iload_n 3, 1) := by decide +kernel
theorem dL_law_971 : decode cL_law 971 = .ok (.iconst 2, 1) := by decide +kernel
theorem dL_law_972 : decode cL_law 972 = .ok (.iadd, 1) := by decide +kernel
theorem dL_law_973 : decode cL_law 973 = .ok (.iaload, 1) := by decide +kernel
theorem dL_law_974 : decode cL_law 974 = .ok (.aload_n 0, 1) := by decide +kernel
theorem dL_law_975 : decode cL_law 975 = .ok (.iload_n 3, 1) := by decide +kernel
theorem dL_law_976 : decode cL_law 976 = .ok (.iconst 3, 1) := by decide +kernel
theorem dL_law_977 : decode cL_law 977 = .ok (.iadd, 1) := by decide +kernel
theorem dL_law_978 : decode cL_law 978 = .ok (.iaload, 1) := by decide +kernel
theorem dL_law_979 : decode cL_law 979 = .ok (.invokevirtual 117, 3) := by decide +kernel
theorem dL_law_982 : decode cL_law 982 = .ok (.lcmp, 1) := by decide +kernel
theorem dL_law_983 : decode cL_law 983 = .ok (.ifCond .eq 433, 3) := by decide +kernel
theorem dL_law_986 : decode cL_law 986 = .ok (.iconst 0, 1) := by decide +kernel
theorem dL_law_987 : decode cL_law 987 = .ok (.ireturn, 1) := by decide +kernel
theorem dL_law_988 : decode cL_law 988 = .ok (.aload_n 1, 1) := by decide +kernel
theorem dL_law_989 : decode cL_law 989 = .ok (.aload_n 0, 1) := by decide +kernel
theorem dL_law_990 : decode cL_law 990 = .ok (.iload_n 3, 1) := by decide +kernel
theorem dL_law_991 : decode cL_law 991 = .ok (.iconst 1, 1) := by decide +kernel
theorem dL_law_992 : decode cL_law 992 = .ok (.iadd, 1) := by decide +kernel
theorem dL_law_993 : decode cL_law 993 = .ok (.iaload, 1) := by decide +kernel
theorem dL_law_994 : decode cL_law 994 = .ok (.invokevirtual 118, 3) := by decide +kernel
theorem dL_law_997 : decode cL_law 997 = .ok (.aload_n 2, 1) := by decide +kernel
theorem dL_law_998 : decode cL_law 998 = .ok (.aload_n 0, 1) := by decide +kernel
theorem dL_law_999 : decode cL_law 999 = .ok (.iload_n 3, 1) := by decide +kernel
theorem dL_law_1000 : decode cL_law 1000 = .ok (.iconst 1, 1) := by decide +kernel
theorem dL_law_1001 : decode cL_law 1001 = .ok (.iadd, 1) := by decide +kernel
theorem dL_law_1002 : decode cL_law 1002 = .ok (.iaload, 1) := by decide +kernel
theorem dL_law_1003 : decode cL_law 1003 = .ok (.invokevirtual 121, 3) := by decide +kernel
theorem dL_law_1006 : decode cL_law 1006 = .ok (.if_icmp .eq 410, 3) := by decide +kernel
theorem dL_law_1009 : decode cL_law 1009 = .ok (.iconst 0, 1) := by decide +kernel
theorem dL_law_1010 : decode cL_law 1010 = .ok (.ireturn, 1) := by decide +kernel
theorem dL_law_1011 : decode cL_law 1011 = .ok (.aload_n 1, 1) := by decide +kernel
theorem dL_law_1012 : decode cL_law 1012 = .ok (.aload_n 0, 1) := by decide +kernel
theorem dL_law_1013 : decode cL_law 1013 = .ok (.iload_n 3, 1) := by decide +kernel
theorem dL_law_1014 : decode cL_law 1014 = .ok (.iconst 1, 1) := by decide +kernel
theorem dL_law_1015 : decode cL_law 1015 = .ok (.iadd, 1) := by decide +kernel
theorem dL_law_1016 : decode cL_law 1016 = .ok (.iaload, 1) := by decide +kernel
theorem dL_law_1017 : decode cL_law 1017 = .ok (.aload_n 0, 1) := by decide +kernel
theorem dL_law_1018 : decode cL_law 1018 = .ok (.iload_n 3, 1) := by decide +kernel
theorem dL_law_1019 : decode cL_law 1019 = .ok (.iconst 2, 1) := by decide +kernel
theorem dL_law_1020 : decode cL_law 1020 = .ok (.iadd, 1) := by decide +kernel
theorem dL_law_1021 : decode cL_law 1021 = .ok (.iaload, 1) := by decide +kernel
theorem dL_law_1022 : decode cL_law 1022 = .ok (.invokevirtual 122, 3) := by decide +kernel
theorem dL_law_1025 : decode cL_law 1025 = .ok (.aload_n 2, 1) := by decide +kernel
theorem dL_law_1026 : decode cL_law 1026 = .ok (.aload_n 0, 1) := by decide +kernel
theorem dL_law_1027 : decode cL_law 1027 = .ok (.iload_n 3, 1) := by decide +kernel
theorem dL_law_1028 : decode cL_law 1028 = .ok (.iconst 1, 1) := by decide +kernel
theorem dL_law_1029 : decode cL_law 1029 = .ok (.iadd, 1) := by decide +kernel
theorem dL_law_1030 : decode cL_law 1030 = .ok (.iaload, 1) := by decide +kernel
theorem dL_law_1031 : decode cL_law 1031 = .ok (.aload_n 0, 1) := by decide +kernel
theorem dL_law_1032 : decode cL_law 1032 = .ok (.iload_n 3, 1) := by decide +kernel
theorem dL_law_1033 : decode cL_law 1033 = .ok (.iconst 2, 1) := by decide +kernel
theorem dL_law_1034 : decode cL_law 1034 = .ok (.iadd, 1) := by decide +kernel
theorem dL_law_1035 : decode cL_law 1035 = .ok (.iaload, 1) := by decide +kernel
theorem dL_law_1036 : decode cL_law 1036 = .ok (.invokevirtual 125, 3) := by decide +kernel
theorem dL_law_1039 : decode cL_law 1039 = .ok (.if_icmp .eq 377, 3) := by decide +kernel
theorem dL_law_1042 : decode cL_law 1042 = .ok (.iconst 0, 1) := by decide +kernel
theorem dL_law_1043 : decode cL_law 1043 = .ok (.ireturn, 1) := by decide +kernel
theorem dL_law_1044 : decode cL_law 1044 = .ok (.aload_n 1, 1) := by decide +kernel
theorem dL_law_1045 : decode cL_law 1045 = .ok (.invokevirtual 126, 3) := by decide +kernel
theorem dL_law_1048 : decode cL_law 1048 = .ok (.aload_n 2, 1) := by decide +kernel
theorem dL_law_1049 : decode cL_law 1049 = .ok (.invokevirtual 129, 3) := by decide +kernel
theorem dL_law_1052 : decode cL_law 1052 = .ok (.if_icmp .eq 364, 3) := by decide +kernel
theorem dL_law_1055 : decode cL_law 1055 = .ok (.iconst 0, 1) := by decide +kernel
theorem dL_law_1056 : decode cL_law 1056 = .ok (.ireturn, 1) := by decide +kernel
theorem dL_law_1057 : decode cL_law 1057 = .ok (.aload_n 1, 1) := by decide +kernel
theorem dL_law_1058 : decode cL_law 1058 = .ok (.invokevirtual 130, 3) := by decide +kernel
theorem dL_law_1061 : decode cL_law 1061 = .ok (.aload_n 2, 1) := by decide +kernel
theorem dL_law_1062 : decode cL_law 1062 = .ok (.invokevirtual 133, 3) := by decide +kernel
theorem dL_law_1065 : decode cL_law 1065 = .ok (.if_icmp .eq 351, 3) := by decide +kernel
theorem dL_law_1068 : decode cL_law 1068 = .ok (.iconst 0, 1) := by decide +kernel
theorem dL_law_1069 : decode cL_law 1069 = .ok (.ireturn, 1) := by decide +kernel
theorem dL_law_1070 : decode cL_law 1070 = .ok (.aload_n 1, 1) := by decide +kernel
theorem dL_law_1071 : decode cL_law 1071 = .ok (.aload_n 0, 1) := by decide +kernel
theorem dL_law_1072 : decode cL_law 1072 = .ok (.iload_n 3, 1) := by decide +kernel
theorem dL_law_1073 : decode cL_law 1073 = .ok (.iconst 1, 1) := by decide +kernel
theorem dL_law_1074 : decode cL_law 1074 = .ok (.iadd, 1) := by decide +kernel
theorem dL_law_1075 : decode cL_law 1075 = .ok (.iaload, 1) := by decide +kernel
theorem dL_law_1076 : decode cL_law 1076 = .ok (.aload_n 0, 1) := by decide +kernel
theorem dL_law_1077 : decode cL_law 1077 = .ok (.iload_n 3, 1) := by decide +kernel
theorem dL_law_1078 : decode cL_law 1078 = .ok (.iconst 2, 1) := by decide +kernel
theorem dL_law_1079 : decode cL_law 1079 = .ok (.iadd, 1) := by decide +kernel
theorem dL_law_1080 : decode cL_law 1080 = .ok (.iaload, 1) := by decide +kernel
theorem dL_law_1081 : decode cL_law 1081 = .ok (.invokevirtual 134, 3) := by decide +kernel
theorem dL_law_1084 : decode cL_law 1084 = .ok (.aload_n 2, 1) := by decide +kernel
theorem dL_law_1085 : decode cL_law 1085 = .ok (.aload_n 0, 1) := by decide +kernel
theorem dL_law_1086 : decode cL_law 1086 = .ok (.iload_n 3, 1) := by decide +kernel
theorem dL_law_1087 : decode cL_law 1087 = .ok (.iconst 1, 1) := by decide +kernel
theorem dL_law_1088 : decode cL_law 1088 = .ok (.iadd, 1) := by decide +kernel
theorem dL_law_1089 : decode cL_law 1089 = .ok (.iaload, 1) := by decide +kernel
theorem dL_law_1090 : decode cL_law 1090 = .ok (.aload_n 0, 1) := by decide +kernel
theorem dL_law_1091 : decode cL_law 1091 = .ok (.iload_n 3, 1) := by decide +kernel
theorem dL_law_1092 : decode cL_law 1092 = .ok (.iconst 2, 1) := by decide +kernel
theorem dL_law_1093 : decode cL_law 1093 = .ok (.iadd, 1) := by decide +kernel
theorem dL_law_1094 : decode cL_law 1094 = .ok (.iaload, 1) := by decide +kernel
theorem dL_law_1095 : decode cL_law 1095 = .ok (.invokevirtual 137, 3) := by decide +kernel
theorem dL_law_1098 : decode cL_law 1098 = .ok (.if_icmp .eq 318, 3) := by decide +kernel
theorem dL_law_1101 : decode cL_law 1101 = .ok (.iconst 0, 1) := by decide +kernel
theorem dL_law_1102 : decode cL_law 1102 = .ok (.ireturn, 1) := by decide +kernel
theorem dL_law_1103 : decode cL_law 1103 = .ok (.aload_n 1, 1) := by decide +kernel
theorem dL_law_1104 : decode cL_law 1104 = .ok (.aload_n 0, 1) := by decide +kernel
theorem dL_law_1105 : decode cL_law 1105 = .ok (.iload_n 3, 1) := by decide +kernel
theorem dL_law_1106 : decode cL_law 1106 = .ok (.iconst 1, 1) := by decide +kernel
theorem dL_law_1107 : decode cL_law 1107 = .ok (.iadd, 1) := by decide +kernel
theorem dL_law_1108 : decode cL_law 1108 = .ok (.iaload, 1) := by decide +kernel
theorem dL_law_1109 : decode cL_law 1109 = .ok (.aload_n 0, 1) := by decide +kernel
theorem dL_law_1110 : decode cL_law 1110 = .ok (.iload_n 3, 1) := by decide +kernel
theorem dL_law_1111 : decode cL_law 1111 = .ok (.iconst 2, 1) := by decide +kernel
theorem dL_law_1112 : decode cL_law 1112 = .ok (.iadd, 1) := by decide +kernel
theorem dL_law_1113 : decode cL_law 1113 = .ok (.iaload, 1) := by decide +kernel
theorem dL_law_1114 : decode cL_law 1114 = .ok (.invokevirtual 138, 3) := by decide +kernel
theorem dL_law_1117 : decode cL_law 1117 = .ok (.aload_n 2, 1) := by decide +kernel
theorem dL_law_1118 : decode cL_law 1118 = .ok (.aload_n 0, 1) := by decide +kernel
theorem dL_law_1119 : decode cL_law 1119 = .ok (.iload_n 3, 1) := by decide +kernel
theorem dL_law_1120 : decode cL_law 1120 = .ok (.iconst 1, 1) := by decide +kernel
theorem dL_law_1121 : decode cL_law 1121 = .ok (.iadd, 1) := by decide +kernel
theorem dL_law_1122 : decode cL_law 1122 = .ok (.iaload, 1) := by decide +kernel
theorem dL_law_1123 : decode cL_law 1123 = .ok (.aload_n 0, 1) := by decide +kernel
theorem dL_law_1124 : decode cL_law 1124 = .ok (.iload_n 3, 1) := by decide +kernel
theorem dL_law_1125 : decode cL_law 1125 = .ok (.iconst 2, 1) := by decide +kernel
theorem dL_law_1126 : decode cL_law 1126 = .ok (.iadd, 1) := by decide +kernel
theorem dL_law_1127 : decode cL_law 1127 = .ok (.iaload, 1) := by decide +kernel
theorem dL_law_1128 : decode cL_law 1128 = .ok (.invokevirtual 141, 3) := by decide +kernel
theorem dL_law_1131 : decode cL_law 1131 = .ok (.if_icmp .eq 285, 3) := by decide +kernel
theorem dL_law_1134 : decode cL_law 1134 = .ok (.iconst 0, 1) := by decide +kernel
theorem dL_law_1135 : decode cL_law 1135 = .ok (.ireturn, 1) := by decide +kernel
theorem dL_law_1136 : decode cL_law 1136 = .ok (.aload_n 1, 1) := by decide +kernel
theorem dL_law_1137 : decode cL_law 1137 = .ok (.aload_n 0, 1) := by decide +kernel
theorem dL_law_1138 : decode cL_law 1138 = .ok (.iload_n 3, 1) := by decide +kernel
theorem dL_law_1139 : decode cL_law 1139 = .ok (.iconst 1, 1) := by decide +kernel
theorem dL_law_1140 : decode cL_law 1140 = .ok (.iadd, 1) := by decide +kernel
theorem dL_law_1141 : decode cL_law 1141 = .ok (.iaload, 1) := by decide +kernel
theorem dL_law_1142 : decode cL_law 1142 = .ok (.aload_n 0, 1) := by decide +kernel
theorem dL_law_1143 : decode cL_law 1143 = .ok (.iload_n 3, 1) := by decide +kernel
theorem dL_law_1144 : decode cL_law 1144 = .ok (.iconst 2, 1) := by decide +kernel
theorem dL_law_1145 : decode cL_law 1145 = .ok (.iadd, 1) := by decide +kernel
theorem dL_law_1146 : decode cL_law 1146 = .ok (.iaload, 1) := by decide +kernel
theorem dL_law_1147 : decode cL_law 1147 = .ok (.aload_n 0, 1) := by decide +kernel
theorem dL_law_1148 : decode cL_law 1148 = .ok (.iload_n 3, 1) := by decide +kernel
theorem dL_law_1149 : decode cL_law 1149 = .ok (.iconst 3, 1) := by decide +kernel
theorem dL_law_1150 : decode cL_law 1150 = .ok (.iadd, 1) := by decide +kernel
theorem dL_law_1151 : decode cL_law 1151 = .ok (.iaload, 1) := by decide +kernel
theorem dL_law_1152 : decode cL_law 1152 = .ok (.invokevirtual 142, 3) := by decide +kernel
theorem dL_law_1155 : decode cL_law 1155 = .ok (.aload_n 2, 1) := by decide +kernel
theorem dL_law_1156 : decode cL_law 1156 = .ok (.aload_n 0, 1) := by decide +kernel
theorem dL_law_1157 : decode cL_law 1157 = .ok (.iload_n 3, 1) := by decide +kernel
theorem dL_law_1158 : decode cL_law 1158 = .ok (.iconst 1, 1) := by decide +kernel
theorem dL_law_1159 : decode cL_law 1159 = .ok (.iadd, 1) := by decide +kernel
theorem dL_law_1160 : decode cL_law 1160 = .ok (.iaload, 1) := by decide +kernel
theorem dL_law_1161 : decode cL_law 1161 = .ok (.aload_n 0, 1) := by decide +kernel
theorem dL_law_1162 : decode cL_law 1162 = .ok (.iload_n 3, 1) := by decide +kernel
theorem dL_law_1163 : decode cL_law 1163 = .ok (.iconst 2, 1) := by decide +kernel
theorem dL_law_1164 : decode cL_law 1164 = .ok (.iadd, 1) := by decide +kernel
theorem dL_law_1165 : decode cL_law 1165 = .ok (.iaload, 1) := by decide +kernel
theorem dL_law_1166 : decode cL_law 1166 = .ok (.aload_n 0, 1) := by decide +kernel
theorem dL_law_1167 : decode cL_law 1167 = .ok (.iload_n 3, 1) := by decide +kernel
theorem dL_law_1168 : decode cL_law 1168 = .ok (.iconst 3, 1) := by decide +kernel
theorem dL_law_1169 : decode cL_law 1169 = .ok (.iadd, 1) := by decide +kernel
theorem dL_law_1170 : decode cL_law 1170 = .ok (.iaload, 1) := by decide +kernel
theorem dL_law_1171 : decode cL_law 1171 = .ok (.invokevirtual 145, 3) := by decide +kernel
theorem dL_law_1174 : decode cL_law 1174 = .ok (.if_icmp .eq 242, 3) := by decide +kernel
theorem dL_law_1177 : decode cL_law 1177 = .ok (.iconst 0, 1) := by decide +kernel
theorem dL_law_1178 : decode cL_law 1178 = .ok (.ireturn, 1) := by decide +kernel
theorem dL_law_1179 : decode cL_law 1179 = .ok (.aload_n 1, 1) := by decide +kernel
theorem dL_law_1180 : decode cL_law 1180 = .ok (.aload_n 0, 1) := by decide +kernel
theorem dL_law_1181 : decode cL_law 1181 = .ok (.iload_n 3, 1) := by decide +kernel
theorem dL_law_1182 : decode cL_law 1182 = .ok (.iconst 1, 1) := by decide +kernel
theorem dL_law_1183 : decode cL_law 1183 = .ok (.iadd, 1) := by decide +kernel
theorem dL_law_1184 : decode cL_law 1184 = .ok (.iaload, 1) := by decide +kernel
theorem dL_law_1185 : decode cL_law 1185 = .ok (.aload_n 0, 1) := by decide +kernel
theorem dL_law_1186 : decode cL_law 1186 = .ok (.iload_n 3, 1) := by decide +kernel
theorem dL_law_1187 : decode cL_law 1187 = .ok (.iconst 2, 1) := by decide +kernel
theorem dL_law_1188 : decode cL_law 1188 = .ok (.iadd, 1) := by decide +kernel
theorem dL_law_1189 : decode cL_law 1189 = .ok (.iaload, 1) := by decide +kernel
theorem dL_law_1190 : decode cL_law 1190 = .ok (.aload_n 0, 1) := by decide +kernel
theorem dL_law_1191 : decode cL_law 1191 = .ok (.iload_n 3, 1) := by decide +kernel
theorem dL_law_1192 : decode cL_law 1192 = .ok (.iconst 3, 1) := by decide +kernel
theorem dL_law_1193 : decode cL_law 1193 = .ok (.iadd, 1) := by decide +kernel
theorem dL_law_1194 : decode cL_law 1194 = .ok (.iaload, 1) := by decide +kernel
theorem dL_law_1195 : decode cL_law 1195 = .ok (.invokevirtual 146, 3) := by decide +kernel
theorem dL_law_1198 : decode cL_law 1198 = .ok (.aload_n 2, 1) := by decide +kernel
theorem dL_law_1199 : decode cL_law 1199 = .ok (.aload_n 0, 1) := by decide +kernel
theorem dL_law_1200 : decode cL_law 1200 = .ok (.iload_n 3, 1) := by decide +kernel
theorem dL_law_1201 : decode cL_law 1201 = .ok (.iconst 1, 1) := by decide +kernel
theorem dL_law_1202 : decode cL_law 1202 = .ok (.iadd, 1) := by decide +kernel
theorem dL_law_1203 : decode cL_law 1203 = .ok (.iaload, 1) := by decide +kernel
theorem dL_law_1204 : decode cL_law 1204 = .ok (.aload_n 0, 1) := by decide +kernel
theorem dL_law_1205 : decode cL_law 1205 = .ok (.iload_n 3, 1) := by decide +kernel
theorem dL_law_1206 : decode cL_law 1206 = .ok (.iconst 2, 1) := by decide +kernel
theorem dL_law_1207 : decode cL_law 1207 = .ok (.iadd, 1) := by decide +kernel
theorem dL_law_1208 : decode cL_law 1208 = .ok (.iaload, 1) := by decide +kernel
theorem dL_law_1209 : decode cL_law 1209 = .ok (.aload_n 0, 1) := by decide +kernel
theorem dL_law_1210 : decode cL_law 1210 = .ok (.iload_n 3, 1) := by decide +kernel
theorem dL_law_1211 : decode cL_law 1211 = .ok (.iconst 3, 1) := by decide +kernel
theorem dL_law_1212 : decode cL_law 1212 = .ok (.iadd, 1) := by decide +kernel
theorem dL_law_1213 : decode cL_law 1213 = .ok (.iaload, 1) := by decide +kernel
theorem dL_law_1214 : decode cL_law 1214 = .ok (.invokevirtual 149, 3) := by decide +kernel
theorem dL_law_1217 : decode cL_law 1217 = .ok (.if_icmp .eq 199, 3) := by decide +kernel
theorem dL_law_1220 : decode cL_law 1220 = .ok (.iconst 0, 1) := by decide +kernel
theorem dL_law_1221 : decode cL_law 1221 = .ok (.ireturn, 1) := by decide +kernel
theorem dL_law_1222 : decode cL_law 1222 = .ok (.aload_n 1, 1) := by decide +kernel
theorem dL_law_1223 : decode cL_law 1223 = .ok (.aload_n 0, 1) := by decide +kernel
theorem dL_law_1224 : decode cL_law 1224 = .ok (.iload_n 3, 1) := by decide +kernel
theorem dL_law_1225 : decode cL_law 1225 = .ok (.iconst 1, 1) := by decide +kernel
theorem dL_law_1226 : decode cL_law 1226 = .ok (.iadd, 1) := by decide +kernel
theorem dL_law_1227 : decode cL_law 1227 = .ok (.iaload, 1) := by decide +kernel
theorem dL_law_1228 : decode cL_law 1228 = .ok (.aload_n 0, 1) := by decide +kernel
theorem dL_law_1229 : decode cL_law 1229 = .ok (.iload_n 3, 1) := by decide +kernel
theorem dL_law_1230 : decode cL_law 1230 = .ok (.iconst 2, 1) := by decide +kernel
theorem dL_law_1231 : decode cL_law 1231 = .ok (.iadd, 1) := by decide +kernel
theorem dL_law_1232 : decode cL_law 1232 = .ok (.iaload, 1) := by decide +kernel
theorem dL_law_1233 : decode cL_law 1233 = .ok (.aload_n 0, 1) := by decide +kernel
theorem dL_law_1234 : decode cL_law 1234 = .ok (.iload_n 3, 1) := by decide +kernel
theorem dL_law_1235 : decode cL_law 1235 = .ok (.iconst 3, 1) := by decide +kernel
theorem dL_law_1236 : decode cL_law 1236 = .ok (.iadd, 1) := by decide +kernel
theorem dL_law_1237 : decode cL_law 1237 = .ok (.iaload, 1) := by decide +kernel
theorem dL_law_1238 : decode cL_law 1238 = .ok (.aload_n 0, 1) := by decide +kernel
theorem dL_law_1239 : decode cL_law 1239 = .ok (.iload_n 3, 1) := by decide +kernel
theorem dL_law_1240 : decode cL_law 1240 = .ok (.iconst 4, 1) := by decide +kernel
theorem dL_law_1241 : decode cL_law 1241 = .ok (.iadd, 1) := by decide +kernel
theorem dL_law_1242 : decode cL_law 1242 = .ok (.iaload, 1) := by decide +kernel
theorem dL_law_1243 : decode cL_law 1243 = .ok (.aload_n 0, 1) := by decide +kernel
theorem dL_law_1244 : decode cL_law 1244 = .ok (.iload_n 3, 1) := by decide +kernel
theorem dL_law_1245 : decode cL_law 1245 = .ok (.iconst 5, 1) := by decide +kernel
theorem dL_law_1246 : decode cL_law 1246 = .ok (.iadd, 1) := by decide +kernel
theorem dL_law_1247 : decode cL_law 1247 = .ok (.iaload, 1) := by decide +kernel
theorem dL_law_1248 : decode cL_law 1248 = .ok (.invokevirtual 150, 3) := by decide +kernel
theorem dL_law_1251 : decode cL_law 1251 = .ok (.aload_n 2, 1) := by decide +kernel
theorem dL_law_1252 : decode cL_law 1252 = .ok (.aload_n 0, 1) := by decide +kernel
theorem dL_law_1253 : decode cL_law 1253 = .ok (.iload_n 3, 1) := by decide +kernel
theorem dL_law_1254 : decode cL_law 1254 = .ok (.iconst 1, 1) := by decide +kernel
theorem dL_law_1255 : decode cL_law 1255 = .ok (.iadd, 1) := by decide +kernel
theorem dL_law_1256 : decode cL_law 1256 = .ok (.iaload, 1) := by decide +kernel
theorem dL_law_1257 : decode cL_law 1257 = .ok (.aload_n 0, 1) := by decide +kernel
theorem dL_law_1258 : decode cL_law 1258 = .ok (.iload_n 3, 1) := by decide +kernel
theorem dL_law_1259 : decode cL_law 1259 = .ok (.iconst 2, 1) := by decide +kernel
theorem dL_law_1260 : decode cL_law 1260 = .ok (.iadd, 1) := by decide +kernel
theorem dL_law_1261 : decode cL_law 1261 = .ok (.iaload, 1) := by decide +kernel
theorem dL_law_1262 : decode cL_law 1262 = .ok (.aload_n 0, 1) := by decide +kernel
theorem dL_law_1263 : decode cL_law 1263 = .ok (.iload_n 3, 1) := by decide +kernel
theorem dL_law_1264 : decode cL_law 1264 = .ok (.iconst 3, 1) := by decide +kernel
theorem dL_law_1265 : decode cL_law 1265 = .ok (.iadd, 1) := by decide +kernel
theorem dL_law_1266 : decode cL_law 1266 = .ok (.iaload, 1) := by decide +kernel
theorem dL_law_1267 : decode cL_law 1267 = .ok (.aload_n 0, 1) := by decide +kernel
theorem dL_law_1268 : decode cL_law 1268 = .ok (.iload_n 3, 1) := by decide +kernel
theorem dL_law_1269 : decode cL_law 1269 = .ok (.iconst 4, 1) := by decide +kernel
theorem dL_law_1270 : decode cL_law 1270 = .ok (.iadd, 1) := by decide +kernel
theorem dL_law_1271 : decode cL_law 1271 = .ok (.iaload, 1) := by decide +kernel
theorem dL_law_1272 : decode cL_law 1272 = .ok (.aload_n 0, 1) := by decide +kernel
theorem dL_law_1273 : decode cL_law 1273 = .ok (.iload_n 3, 1) := by decide +kernel
theorem dL_law_1274 : decode cL_law 1274 = .ok (.iconst 5, 1) := by decide +kernel
theorem dL_law_1275 : decode cL_law 1275 = .ok (.iadd, 1) := by decide +kernel
theorem dL_law_1276 : decode cL_law 1276 = .ok (.iaload, 1) := by decide +kernel
theorem dL_law_1277 : decode cL_law 1277 = .ok (.invokevirtual 154, 3) := by decide +kernel
theorem dL_law_1280 : decode cL_law 1280 = .ok (.if_icmp .eq 136, 3) := by decide +kernel
theorem dL_law_1283 : decode cL_law 1283 = .ok (.iconst 0, 1) := by decide +kernel
theorem dL_law_1284 : decode cL_law 1284 = .ok (.ireturn, 1) := by decide +kernel
theorem dL_law_1285 : decode cL_law 1285 = .ok (.aload_n 1, 1) := by decide +kernel
theorem dL_law_1286 : decode cL_law 1286 = .ok (.aload_n 0, 1) := by decide +kernel
theorem dL_law_1287 : decode cL_law 1287 = .ok (.iload_n 3, 1) := by decide +kernel
theorem dL_law_1288 : decode cL_law 1288 = .ok (.iconst 1, 1) := by decide +kernel
theorem dL_law_1289 : decode cL_law 1289 = .ok (.iadd, 1) := by decide +kernel
theorem dL_law_1290 : decode cL_law 1290 = .ok (.iaload, 1) := by decide +kernel
theorem dL_law_1291 : decode cL_law 1291 = .ok (.invokevirtual 155, 3) := by decide +kernel
theorem dL_law_1294 : decode cL_law 1294 = .ok (.aload_n 2, 1) := by decide +kernel
theorem dL_law_1295 : decode cL_law 1295 = .ok (.aload_n 0, 1) := by decide +kernel
end
section
theorem dL_law_1296 : decode cL_law 1296 = .ok (.iload_n 3, 1) := by decide +kernel
theorem dL_law_1297 : decode cL_law 1297 = .ok (.iconst 1, 1) := by decide +kernel
theorem dL_law_1298 : decode cL_law 1298 = .ok (.iadd, 1) := by decide +kernel
theorem dL_law_1299 : decode cL_law 1299 = .ok (.iaload, 1) := by decide +kernel
theorem dL_law_1300 : decode cL_law 1300 = .ok (.invokevirtual 158, 3) := by decide +kernel
theorem dL_law_1303 : decode cL_law 1303 = .ok (.if_icmp .eq 113, 3) := by decide +kernel
theorem dL_law_1306 : decode cL_law 1306 = .ok (.iconst 0, 1) := by decide +kernel
theorem dL_law_1307 : decode cL_law 1307 = .ok (.ireturn, 1) := by decide +kernel
theorem dL_law_1308 : decode cL_law 1308 = .ok (.aload_n 1, 1) := by decide +kernel
theorem dL_law_1309 : decode cL_law 1309 = .ok (.aload_n 0, 1) := by decide +kernel
theorem dL_law_1310 : decode cL_law 1310 = .ok (.iload_n 3, 1) := by decide +kernel
theorem dL_law_1311 : decode cL_law 1311 = .ok (.iconst 1, 1) := by decide +kernel
theorem dL_law_1312 : decode cL_law 1312 = .ok (.iadd, 1) := by decide +kernel
theorem dL_law_1313 : decode cL_law 1313 = .ok (.iaload, 1) := by decide +kernel
theorem dL_law_1314 : decode cL_law 1314 = .ok (.invokevirtual 159, 3) := by decide +kernel
theorem dL_law_1317 : decode cL_law 1317 = .ok (.aload_n 2, 1) := by decide +kernel
theorem dL_law_1318 : decode cL_law 1318 = .ok (.aload_n 0, 1) := by decide +kernel
theorem dL_law_1319 : decode cL_law 1319 = .ok (.iload_n 3, 1) := by decide +kernel
theorem dL_law_1320 : decode cL_law 1320 = .ok (.iconst 1, 1) := by decide +kernel
theorem dL_law_1321 : decode cL_law 1321 = .ok (.iadd, 1) := by decide +kernel
theorem dL_law_1322 : decode cL_law 1322 = .ok (.iaload, 1) := by decide +kernel
theorem dL_law_1323 : decode cL_law 1323 = .ok (.invokevirtual 162, 3) := by decide +kernel
theorem dL_law_1326 : decode cL_law 1326 = .ok (.if_icmp .eq 90, 3) := by decide +kernel
theorem dL_law_1329 : decode cL_law 1329 = .ok (.iconst 0, 1) := by decide +kernel
theorem dL_law_1330 : decode cL_law 1330 = .ok (.ireturn, 1) := by decide +kernel
theorem dL_law_1331 : decode cL_law 1331 = .ok (.aload_n 1, 1) := by decide +kernel
theorem dL_law_1332 : decode cL_law 1332 = .ok (.invokevirtual 163, 3) := by decide +kernel
theorem dL_law_1335 : decode cL_law 1335 = .ok (.aload_n 2, 1) := by decide +kernel
theorem dL_law_1336 : decode cL_law 1336 = .ok (.invokevirtual 166, 3) := by decide +kernel
theorem dL_law_1339 : decode cL_law 1339 = .ok (.if_icmp .eq 77, 3) := by decide +kernel
theorem dL_law_1342 : decode cL_law 1342 = .ok (.iconst 0, 1) := by decide +kernel
theorem dL_law_1343 : decode cL_law 1343 = .ok (.ireturn, 1) := by decide +kernel
theorem dL_law_1344 : decode cL_law 1344 = .ok (.aload_n 1, 1) := by decide +kernel
theorem dL_law_1345 : decode cL_law 1345 = .ok (.invokevirtual 167, 3) := by decide +kernel
theorem dL_law_1348 : decode cL_law 1348 = .ok (.aload_n 2, 1) := by decide +kernel
theorem dL_law_1349 : decode cL_law 1349 = .ok (.invokevirtual 170, 3) := by decide +kernel
theorem dL_law_1352 : decode cL_law 1352 = .ok (.if_icmp .eq 64, 3) := by decide +kernel
theorem dL_law_1355 : decode cL_law 1355 = .ok (.iconst 0, 1) := by decide +kernel
theorem dL_law_1356 : decode cL_law 1356 = .ok (.ireturn, 1) := by decide +kernel
theorem dL_law_1357 : decode cL_law 1357 = .ok (.aload_n 1, 1) := by decide +kernel
theorem dL_law_1358 : decode cL_law 1358 = .ok (.invokevirtual 171, 3) := by decide +kernel
theorem dL_law_1361 : decode cL_law 1361 = .ok (.aload_n 2, 1) := by decide +kernel
theorem dL_law_1362 : decode cL_law 1362 = .ok (.invokevirtual 174, 3) := by decide +kernel
theorem dL_law_1365 : decode cL_law 1365 = .ok (.if_icmp .eq 51, 3) := by decide +kernel
theorem dL_law_1368 : decode cL_law 1368 = .ok (.iconst 0, 1) := by decide +kernel
theorem dL_law_1369 : decode cL_law 1369 = .ok (.ireturn, 1) := by decide +kernel
theorem dL_law_1370 : decode cL_law 1370 = .ok (.aload_n 1, 1) := by decide +kernel
theorem dL_law_1371 : decode cL_law 1371 = .ok (.aload_n 0, 1) := by decide +kernel
theorem dL_law_1372 : decode cL_law 1372 = .ok (.iload_n 3, 1) := by decide +kernel
theorem dL_law_1373 : decode cL_law 1373 = .ok (.iconst 1, 1) := by decide +kernel
theorem dL_law_1374 : decode cL_law 1374 = .ok (.iadd, 1) := by decide +kernel
theorem dL_law_1375 : decode cL_law 1375 = .ok (.iaload, 1) := by decide +kernel
theorem dL_law_1376 : decode cL_law 1376 = .ok (.invokevirtual 175, 3) := by decide +kernel
theorem dL_law_1379 : decode cL_law 1379 = .ok (.aload_n 2, 1) := by decide +kernel
theorem dL_law_1380 : decode cL_law 1380 = .ok (.aload_n 0, 1) := by decide +kernel
theorem dL_law_1381 : decode cL_law 1381 = .ok (.iload_n 3, 1) := by decide +kernel
theorem dL_law_1382 : decode cL_law 1382 = .ok (.iconst 1, 1) := by decide +kernel
theorem dL_law_1383 : decode cL_law 1383 = .ok (.iadd, 1) := by decide +kernel
theorem dL_law_1384 : decode cL_law 1384 = .ok (.iaload, 1) := by decide +kernel
theorem dL_law_1385 : decode cL_law 1385 = .ok (.invokevirtual 178, 3) := by decide +kernel
theorem dL_law_1388 : decode cL_law 1388 = .ok (.if_icmp .eq 28, 3) := by decide +kernel
theorem dL_law_1391 : decode cL_law 1391 = .ok (.iconst 0, 1) := by decide +kernel
theorem dL_law_1392 : decode cL_law 1392 = .ok (.ireturn, 1) := by decide +kernel
theorem dL_law_1393 : decode cL_law 1393 = .ok (.aload_n 1, 1) := by decide +kernel
theorem dL_law_1394 : decode cL_law 1394 = .ok (.aload_n 0, 1) := by decide +kernel
theorem dL_law_1395 : decode cL_law 1395 = .ok (.iload_n 3, 1) := by decide +kernel
theorem dL_law_1396 : decode cL_law 1396 = .ok (.iconst 1, 1) := by decide +kernel
theorem dL_law_1397 : decode cL_law 1397 = .ok (.iadd, 1) := by decide +kernel
theorem dL_law_1398 : decode cL_law 1398 = .ok (.iaload, 1) := by decide +kernel
theorem dL_law_1399 : decode cL_law 1399 = .ok (.invokevirtual 179, 3) := by decide +kernel
theorem dL_law_1402 : decode cL_law 1402 = .ok (.aload_n 2, 1) := by decide +kernel
theorem dL_law_1403 : decode cL_law 1403 = .ok (.aload_n 0, 1) := by decide +kernel
theorem dL_law_1404 : decode cL_law 1404 = .ok (.iload_n 3, 1) := by decide +kernel
theorem dL_law_1405 : decode cL_law 1405 = .ok (.iconst 1, 1) := by decide +kernel
theorem dL_law_1406 : decode cL_law 1406 = .ok (.iadd, 1) := by decide +kernel
theorem dL_law_1407 : decode cL_law 1407 = .ok (.iaload, 1) := by decide +kernel
theorem dL_law_1408 : decode cL_law 1408 = .ok (.invokevirtual 182, 3) := by decide +kernel
theorem dL_law_1411 : decode cL_law 1411 = .ok (.if_icmp .eq 5, 3) := by decide +kernel
theorem dL_law_1414 : decode cL_law 1414 = .ok (.iconst 0, 1) := by decide +kernel
theorem dL_law_1415 : decode cL_law 1415 = .ok (.ireturn, 1) := by decide +kernel
theorem dL_law_1416 : decode cL_law 1416 = .ok (.iinc 3 6, 3) := by decide +kernel
theorem dL_law_1419 : decode cL_law 1419 = .ok (.goto (-1401), 3) := by decide +kernel
theorem dL_law_1422 : decode cL_law 1422 = .ok (.iconst 1, 1) := by decide +kernel
theorem dL_law_1423 : decode cL_law 1423 = .ok (.ireturn, 1) := by decide +kernel
end
section
def a_nw : List Cond := [Cond.methodLinkNest "LacedHouse" 28 ⟨"LacedHouse$Sheets", "<init>", "()V"⟩ "LacedHouse", Cond.methodLinkNest "LacedHouse" 35 ⟨"LacedHouse$Tape", "<init>", "()V"⟩ "LacedHouse", Cond.fieldLinkNest "LacedHouse$Tape" 70 "LacedHouse" "GREATEST_SETTING" "[I" "LacedHouse"]
def tG : List Cond := lw_tbl.filter goodWord
theorem tG_in {w : Cond} (h : w ∈ lw_tbl) (hg : goodWord w = true) : w ∈ tG := List.mem_filter.mpr ⟨h, hg⟩
theorem tG_good {c : Cond} (hc : c ∈ tG) {big : List Cond} (hb : ∀ w ∈ tG, w ∈ big) : GoodIn big (c :: tG) := by
  have h0 : ∀ w ∈ tG, w ∈ big ∧ ((w.onTables && w.keeps) = true ∨ ∃ ty, w = .arrayClass ty) := fun w hw => ⟨hb w hw, good_of_word (List.mem_filter.mp hw).2⟩
  intro w hw
  rcases List.mem_cons.mp hw with rfl | hw
  · exact h0 _ hc
  · exact h0 _ hw
def g_S (own : String) (ix : Nat) (x : MethodName) (b : ByteArray) (nL : Nat) (rt : Option FieldType) (a : Nat) : Prop :=
  Cond.methodLink own ix x ∈ tG ∧ Cond.static x ∈ tG ∧ Cond.initialized x.cls ∈ tG ∧ Cond.code x b nL rt ∈ tG ∧ x.cls ≠ "java/lang/invoke/MethodHandle" ∧ x.cls ≠ "java/lang/invoke/VarHandle" ∧ (parseMethodDescriptor x.desc).map (fun d => d.parameters.length) = some a
def g_V (own : String) (ix : Nat) (x : MethodName) (b : ByteArray) (nL : Nat) (rt : Option FieldType) (a : Nat) : Prop :=
  Cond.methodLink own ix x ∈ tG ∧ Cond.instanceMethod x ∈ tG ∧ Cond.selects x.cls x x ∈ tG ∧ Cond.initialized x.cls ∈ tG ∧ Cond.code x b nL rt ∈ tG ∧ x.cls ≠ "java/lang/invoke/MethodHandle" ∧ x.cls ≠ "java/lang/invoke/VarHandle" ∧ (parseMethodDescriptor x.desc).map (fun d => d.parameters.length) = some a
def g_I (own : String) (ix : Nat) (x : MethodName) (b : ByteArray) (nL : Nat) (a : Nat) : Prop :=
  Cond.methodLink own ix x ∈ tG ∧ Cond.instanceMethod x ∈ tG ∧ Cond.initialized x.cls ∈ tG ∧ Cond.code x b nL none ∈ tG ∧ x.cls ≠ "java/lang/invoke/MethodHandle" ∧ x.cls ≠ "java/lang/invoke/VarHandle" ∧ x.name = "<init>" ∧ (parseMethodDescriptor x.desc).map (fun d => d.parameters.length) = some a
def g_N (own : String) (ix : Nat) (x : MethodName) (host : String) (b : ByteArray) (nL : Nat) (a : Nat) : Prop :=
  Cond.methodLinkNest own ix x host ∈ a_nw ∧ Cond.instanceMethod x ∈ tG ∧ Cond.initialized x.cls ∈ tG ∧ Cond.code x b nL none ∈ tG ∧ x.cls ≠ "java/lang/invoke/MethodHandle" ∧ x.cls ≠ "java/lang/invoke/VarHandle" ∧ x.name = "<init>" ∧ (parseMethodDescriptor x.desc).map (fun d => d.parameters.length) = some a
end
section
theorem hin_X0 : ∀ w ∈ u_ws RX0 TX0 15, w ∈ tG := by
  have h : ∀ w ∈ u_ws RX0 TX0 15, w ∈ lw_tbl ∧ goodWord w = true := by decide +kernel
  exact fun w hw => tG_in (h w hw).1 (h w hw).2
theorem hin_X2 : ∀ w ∈ u_ws RX2 TX2 3, w ∈ tG := by
  have h : ∀ w ∈ u_ws RX2 TX2 3, w ∈ lw_tbl ∧ goodWord w = true := by decide +kernel
  exact fun w hw => tG_in (h w hw).1 (h w hw).2
theorem hin_X3 : ∀ w ∈ u_ws RX3 TX3 6, w ∈ tG := by
  have h : ∀ w ∈ u_ws RX3 TX3 6, w ∈ lw_tbl ∧ goodWord w = true := by decide +kernel
  exact fun w hw => tG_in (h w hw).1 (h w hw).2
theorem hin_X4 : ∀ w ∈ u_ws RX4 TX4 7, w ∈ tG := by
  have h : ∀ w ∈ u_ws RX4 TX4 7, w ∈ lw_tbl ∧ goodWord w = true := by decide +kernel
  exact fun w hw => tG_in (h w hw).1 (h w hw).2
theorem hin_X5 : ∀ w ∈ u_ws RX5 TX5 20, w ∈ tG := by
  have h : ∀ w ∈ u_ws RX5 TX5 20, w ∈ lw_tbl ∧ goodWord w = true := by decide +kernel
  exact fun w hw => tG_in (h w hw).1 (h w hw).2
theorem fl_X0_9 : Cond.fieldLink RX0 9 (TX0 0).1 (TX0 0).2.1 (TX0 0).2.2.1 ∈ tG := tG_in (List.mem_of_getElem? (i := 90) (by decide +kernel)) rfl
theorem fl_X4_69 : Cond.fieldLink RX4 69 (TX0 0).1 (TX0 0).2.1 (TX0 0).2.2.1 ∈ tG := tG_in (List.mem_of_getElem? (i := 91) (by decide +kernel)) rfl
theorem fl_X3_54 : Cond.fieldLink RX3 54 (TX0 0).1 (TX0 0).2.1 (TX0 0).2.2.1 ∈ tG := tG_in (List.mem_of_getElem? (i := 92) (by decide +kernel)) rfl
theorem fl_X0_13 : Cond.fieldLink RX0 13 (TX0 1).1 (TX0 1).2.1 (TX0 1).2.2.1 ∈ tG := tG_in (List.mem_of_getElem? (i := 93) (by decide +kernel)) rfl
theorem fl_X4_78 : Cond.fieldLink RX4 78 (TX0 1).1 (TX0 1).2.1 (TX0 1).2.2.1 ∈ tG := tG_in (List.mem_of_getElem? (i := 94) (by decide +kernel)) rfl
theorem fl_X3_65 : Cond.fieldLink RX3 65 (TX0 1).1 (TX0 1).2.1 (TX0 1).2.2.1 ∈ tG := tG_in (List.mem_of_getElem? (i := 95) (by decide +kernel)) rfl
theorem fl_X0_16 : Cond.fieldLink RX0 16 (TX0 2).1 (TX0 2).2.1 (TX0 2).2.2.1 ∈ tG := tG_in (List.mem_of_getElem? (i := 96) (by decide +kernel)) rfl
theorem fl_X4_55 : Cond.fieldLink RX4 55 (TX0 2).1 (TX0 2).2.1 (TX0 2).2.2.1 ∈ tG := tG_in (List.mem_of_getElem? (i := 97) (by decide +kernel)) rfl
theorem fl_X3_79 : Cond.fieldLink RX3 79 (TX0 2).1 (TX0 2).2.1 (TX0 2).2.2.1 ∈ tG := tG_in (List.mem_of_getElem? (i := 98) (by decide +kernel)) rfl
theorem fl_X0_20 : Cond.fieldLink RX0 20 (TX0 3).1 (TX0 3).2.1 (TX0 3).2.2.1 ∈ tG := tG_in (List.mem_of_getElem? (i := 99) (by decide +kernel)) rfl
theorem fl_X4_59 : Cond.fieldLink RX4 59 (TX0 3).1 (TX0 3).2.1 (TX0 3).2.2.1 ∈ tG := tG_in (List.mem_of_getElem? (i := 100) (by decide +kernel)) rfl
theorem fl_X0_23 : Cond.fieldLink RX0 23 (TX0 4).1 (TX0 4).2.1 (TX0 4).2.2.1 ∈ tG := tG_in (List.mem_of_getElem? (i := 101) (by decide +kernel)) rfl
theorem fl_X4_62 : Cond.fieldLink RX4 62 (TX0 4).1 (TX0 4).2.1 (TX0 4).2.2.1 ∈ tG := tG_in (List.mem_of_getElem? (i := 102) (by decide +kernel)) rfl
theorem fl_X0_26 : Cond.fieldLink RX0 26 (TX0 5).1 (TX0 5).2.1 (TX0 5).2.2.1 ∈ tG := tG_in (List.mem_of_getElem? (i := 103) (by decide +kernel)) rfl
theorem fl_X4_109 : Cond.fieldLink RX4 109 (TX0 5).1 (TX0 5).2.1 (TX0 5).2.2.1 ∈ tG := tG_in (List.mem_of_getElem? (i := 104) (by decide +kernel)) rfl
theorem fl_X0_29 : Cond.fieldLink RX0 29 (TX0 6).1 (TX0 6).2.1 (TX0 6).2.2.1 ∈ tG := tG_in (List.mem_of_getElem? (i := 105) (by decide +kernel)) rfl
theorem fl_X4_176 : Cond.fieldLink RX4 176 (TX0 6).1 (TX0 6).2.1 (TX0 6).2.2.1 ∈ tG := tG_in (List.mem_of_getElem? (i := 106) (by decide +kernel)) rfl
theorem fl_X0_32 : Cond.fieldLink RX0 32 (TX0 7).1 (TX0 7).2.1 (TX0 7).2.2.1 ∈ tG := tG_in (List.mem_of_getElem? (i := 107) (by decide +kernel)) rfl
theorem fl_X4_101 : Cond.fieldLink RX4 101 (TX0 7).1 (TX0 7).2.1 (TX0 7).2.2.1 ∈ tG := tG_in (List.mem_of_getElem? (i := 108) (by decide +kernel)) rfl
theorem fl_X0_35 : Cond.fieldLink RX0 35 (TX0 8).1 (TX0 8).2.1 (TX0 8).2.2.1 ∈ tG := tG_in (List.mem_of_getElem? (i := 109) (by decide +kernel)) rfl
theorem fl_X4_158 : Cond.fieldLink RX4 158 (TX0 8).1 (TX0 8).2.1 (TX0 8).2.2.1 ∈ tG := tG_in (List.mem_of_getElem? (i := 110) (by decide +kernel)) rfl
theorem fl_X0_38 : Cond.fieldLink RX0 38 (TX0 9).1 (TX0 9).2.1 (TX0 9).2.2.1 ∈ tG := tG_in (List.mem_of_getElem? (i := 111) (by decide +kernel)) rfl
theorem fl_X3_93 : Cond.fieldLink RX3 93 (TX0 9).1 (TX0 9).2.1 (TX0 9).2.2.1 ∈ tG := tG_in (List.mem_of_getElem? (i := 112) (by decide +kernel)) rfl
theorem fl_X4_170 : Cond.fieldLink RX4 170 (TX0 9).1 (TX0 9).2.1 (TX0 9).2.2.1 ∈ tG := tG_in (List.mem_of_getElem? (i := 113) (by decide +kernel)) rfl
theorem fl_X0_41 : Cond.fieldLink RX0 41 (TX0 10).1 (TX0 10).2.1 (TX0 10).2.2.1 ∈ tG := tG_in (List.mem_of_getElem? (i := 114) (by decide +kernel)) rfl
theorem fl_X3_101 : Cond.fieldLink RX3 101 (TX0 10).1 (TX0 10).2.1 (TX0 10).2.2.1 ∈ tG := tG_in (List.mem_of_getElem? (i := 115) (by decide +kernel)) rfl
theorem fl_X4_173 : Cond.fieldLink RX4 173 (TX0 10).1 (TX0 10).2.1 (TX0 10).2.2.1 ∈ tG := tG_in (List.mem_of_getElem? (i := 116) (by decide +kernel)) rfl
theorem fl_X0_44 : Cond.fieldLink RX0 44 (TX0 11).1 (TX0 11).2.1 (TX0 11).2.2.1 ∈ tG := tG_in (List.mem_of_getElem? (i := 117) (by decide +kernel)) rfl
theorem fl_X4_161 : Cond.fieldLink RX4 161 (TX0 11).1 (TX0 11).2.1 (TX0 11).2.2.1 ∈ tG := tG_in (List.mem_of_getElem? (i := 118) (by decide +kernel)) rfl
theorem fl_X0_47 : Cond.fieldLink RX0 47 (TX0 12).1 (TX0 12).2.1 (TX0 12).2.2.1 ∈ tG := tG_in (List.mem_of_getElem? (i := 119) (by decide +kernel)) rfl
theorem fl_X0_50 : Cond.fieldLink RX0 50 (TX0 13).1 (TX0 13).2.1 (TX0 13).2.2.1 ∈ tG := tG_in (List.mem_of_getElem? (i := 120) (by decide +kernel)) rfl
theorem fl_X4_206 : Cond.fieldLink RX4 206 (TX0 13).1 (TX0 13).2.1 (TX0 13).2.2.1 ∈ tG := tG_in (List.mem_of_getElem? (i := 121) (by decide +kernel)) rfl
theorem fl_X0_53 : Cond.fieldLink RX0 53 (TX0 14).1 (TX0 14).2.1 (TX0 14).2.2.1 ∈ tG := tG_in (List.mem_of_getElem? (i := 122) (by decide +kernel)) rfl
theorem fl_X4_228 : Cond.fieldLink RX4 228 (TX0 14).1 (TX0 14).2.1 (TX0 14).2.2.1 ∈ tG := tG_in (List.mem_of_getElem? (i := 123) (by decide +kernel)) rfl
theorem fl_X2_11 : Cond.fieldLink RX2 11 (TX2 0).1 (TX2 0).2.1 (TX2 0).2.2.1 ∈ tG := tG_in (List.mem_of_getElem? (i := 164) (by decide +kernel)) rfl
theorem fl_X4_262 : Cond.fieldLink RX4 262 (TX2 0).1 (TX2 0).2.1 (TX2 0).2.2.1 ∈ tG := tG_in (List.mem_of_getElem? (i := 165) (by decide +kernel)) rfl
theorem fl_X2_14 : Cond.fieldLink RX2 14 (TX2 1).1 (TX2 1).2.1 (TX2 1).2.2.1 ∈ tG := tG_in (List.mem_of_getElem? (i := 166) (by decide +kernel)) rfl
theorem fl_X4_256 : Cond.fieldLink RX4 256 (TX2 1).1 (TX2 1).2.1 (TX2 1).2.2.1 ∈ tG := tG_in (List.mem_of_getElem? (i := 167) (by decide +kernel)) rfl
theorem fl_X2_18 : Cond.fieldLink RX2 18 (TX2 2).1 (TX2 2).2.1 (TX2 2).2.2.1 ∈ tG := tG_in (List.mem_of_getElem? (i := 168) (by decide +kernel)) rfl
theorem fl_X4_247 : Cond.fieldLink RX4 247 (TX2 2).1 (TX2 2).2.1 (TX2 2).2.2.1 ∈ tG := tG_in (List.mem_of_getElem? (i := 169) (by decide +kernel)) rfl
theorem fl_X3_9 : Cond.fieldLink RX3 9 (TX3 0).1 (TX3 0).2.1 (TX3 0).2.2.1 ∈ tG := tG_in (List.mem_of_getElem? (i := 183) (by decide +kernel)) rfl
theorem fl_X3_13 : Cond.fieldLink RX3 13 (TX3 1).1 (TX3 1).2.1 (TX3 1).2.2.1 ∈ tG := tG_in (List.mem_of_getElem? (i := 184) (by decide +kernel)) rfl
theorem fl_X4_214 : Cond.fieldLink RX4 214 (TX3 1).1 (TX3 1).2.1 (TX3 1).2.2.1 ∈ tG := tG_in (List.mem_of_getElem? (i := 185) (by decide +kernel)) rfl
theorem fl_X3_17 : Cond.fieldLink RX3 17 (TX3 2).1 (TX3 2).2.1 (TX3 2).2.2.1 ∈ tG := tG_in (List.mem_of_getElem? (i := 186) (by decide +kernel)) rfl
theorem fl_X3_20 : Cond.fieldLink RX3 20 (TX3 3).1 (TX3 3).2.1 (TX3 3).2.2.1 ∈ tG := tG_in (List.mem_of_getElem? (i := 187) (by decide +kernel)) rfl
theorem fl_X3_23 : Cond.fieldLink RX3 23 (TX3 4).1 (TX3 4).2.1 (TX3 4).2.2.1 ∈ tG := tG_in (List.mem_of_getElem? (i := 188) (by decide +kernel)) rfl
theorem fl_X3_26 : Cond.fieldLink RX3 26 (TX3 5).1 (TX3 5).2.1 (TX3 5).2.2.1 ∈ tG := tG_in (List.mem_of_getElem? (i := 189) (by decide +kernel)) rfl
theorem fl_X4_10 : Cond.fieldLink RX4 10 (TX4 0).1 (TX4 0).2.1 (TX4 0).2.2.1 ∈ tG := tG_in (List.mem_of_getElem? (i := 203) (by decide +kernel)) rfl
theorem fl_X4_16 : Cond.fieldLink RX4 16 (TX4 1).1 (TX4 1).2.1 (TX4 1).2.2.1 ∈ tG := tG_in (List.mem_of_getElem? (i := 204) (by decide +kernel)) rfl
theorem fl_X4_19 : Cond.fieldLink RX4 19 (TX4 2).1 (TX4 2).2.1 (TX4 2).2.2.1 ∈ tG := tG_in (List.mem_of_getElem? (i := 205) (by decide +kernel)) rfl
theorem fl_X4_22 : Cond.fieldLink RX4 22 (TX4 3).1 (TX4 3).2.1 (TX4 3).2.2.1 ∈ tG := tG_in (List.mem_of_getElem? (i := 206) (by decide +kernel)) rfl
theorem fl_X4_29 : Cond.fieldLink RX4 29 (TX4 4).1 (TX4 4).2.1 (TX4 4).2.2.1 ∈ tG := tG_in (List.mem_of_getElem? (i := 207) (by decide +kernel)) rfl
theorem fl_X4_36 : Cond.fieldLink RX4 36 (TX4 5).1 (TX4 5).2.1 (TX4 5).2.2.1 ∈ tG := tG_in (List.mem_of_getElem? (i := 208) (by decide +kernel)) rfl
theorem fl_X4_40 : Cond.fieldLink RX4 40 (TX4 6).1 (TX4 6).2.1 (TX4 6).2.2.1 ∈ tG := tG_in (List.mem_of_getElem? (i := 209) (by decide +kernel)) rfl
theorem fl_X4_48 : Cond.fieldLink RX4 48 "LacedHouse" "GREATEST_SETTING" "[I" ∈ tG := tG_in (List.mem_of_getElem? (i := 232) (by decide +kernel)) rfl
theorem fl_X4_122 : Cond.fieldLink RX4 122 "LacedHouse" "LEAST_TRAIT" "[I" ∈ tG := tG_in (List.mem_of_getElem? (i := 320) (by decide +kernel)) rfl
theorem fl_X4_125 : Cond.fieldLink RX4 125 "LacedHouse" "GREATEST_TRAIT" "[I" ∈ tG := tG_in (List.mem_of_getElem? (i := 322) (by decide +kernel)) rfl
theorem fl_J0_38 : Cond.fieldLink RJ0 38 "java/lang/String" "COMPACT_STRINGS" "Z" ∈ tG := tG_in (List.mem_of_getElem? (i := 585) (by decide +kernel)) rfl
theorem fl_J0_1053 : Cond.fieldLink RJ0 1053 "jdk/internal/util/Preconditions" "SIOOBE_FORMATTER" "Ljava/util/function/BiFunction;" ∈ tG := tG_in (List.mem_of_getElem? (i := 601) (by decide +kernel)) rfl
theorem fl_X1_15 : Cond.fieldLink RX1 15 "LacedHouse$Kinds" "ABOVE" "[I" ∈ tG := tG_in (List.mem_of_getElem? (i := 665) (by decide +kernel)) rfl
theorem fl_X5_9 : Cond.fieldLink RX5 9 (TX5 0).1 (TX5 0).2.1 (TX5 0).2.2.1 ∈ tG := tG_in (List.mem_of_getElem? (i := 748) (by decide +kernel)) rfl
theorem fl_X5_13 : Cond.fieldLink RX5 13 (TX5 1).1 (TX5 1).2.1 (TX5 1).2.2.1 ∈ tG := tG_in (List.mem_of_getElem? (i := 749) (by decide +kernel)) rfl
theorem fl_X5_16 : Cond.fieldLink RX5 16 (TX5 2).1 (TX5 2).2.1 (TX5 2).2.2.1 ∈ tG := tG_in (List.mem_of_getElem? (i := 750) (by decide +kernel)) rfl
theorem fl_X5_310 : Cond.fieldLink RX5 310 (TX5 3).1 (TX5 3).2.1 (TX5 3).2.2.1 ∈ tG := tG_in (List.mem_of_getElem? (i := 751) (by decide +kernel)) rfl
theorem fl_X5_19 : Cond.fieldLink RX5 19 (TX5 4).1 (TX5 4).2.1 (TX5 4).2.2.1 ∈ tG := tG_in (List.mem_of_getElem? (i := 752) (by decide +kernel)) rfl
theorem fl_X5_22 : Cond.fieldLink RX5 22 (TX5 5).1 (TX5 5).2.1 (TX5 5).2.2.1 ∈ tG := tG_in (List.mem_of_getElem? (i := 753) (by decide +kernel)) rfl
theorem fl_X5_218 : Cond.fieldLink RX5 218 (TX5 6).1 (TX5 6).2.1 (TX5 6).2.2.1 ∈ tG := tG_in (List.mem_of_getElem? (i := 754) (by decide +kernel)) rfl
theorem fl_X5_225 : Cond.fieldLink RX5 225 (TX5 7).1 (TX5 7).2.1 (TX5 7).2.2.1 ∈ tG := tG_in (List.mem_of_getElem? (i := 755) (by decide +kernel)) rfl
theorem fl_X5_222 : Cond.fieldLink RX5 222 (TX5 8).1 (TX5 8).2.1 (TX5 8).2.2.1 ∈ tG := tG_in (List.mem_of_getElem? (i := 756) (by decide +kernel)) rfl
theorem fl_X5_234 : Cond.fieldLink RX5 234 (TX5 9).1 (TX5 9).2.1 (TX5 9).2.2.1 ∈ tG := tG_in (List.mem_of_getElem? (i := 757) (by decide +kernel)) rfl
theorem fl_X5_231 : Cond.fieldLink RX5 231 (TX5 10).1 (TX5 10).2.1 (TX5 10).2.2.1 ∈ tG := tG_in (List.mem_of_getElem? (i := 758) (by decide +kernel)) rfl
theorem fl_X5_244 : Cond.fieldLink RX5 244 (TX5 11).1 (TX5 11).2.1 (TX5 11).2.2.1 ∈ tG := tG_in (List.mem_of_getElem? (i := 759) (by decide +kernel)) rfl
theorem fl_X5_41 : Cond.fieldLink RX5 41 (TX5 12).1 (TX5 12).2.1 (TX5 12).2.2.1 ∈ tG := tG_in (List.mem_of_getElem? (i := 760) (by decide +kernel)) rfl
theorem fl_X5_45 : Cond.fieldLink RX5 45 (TX5 13).1 (TX5 13).2.1 (TX5 13).2.2.1 ∈ tG := tG_in (List.mem_of_getElem? (i := 761) (by decide +kernel)) rfl
theorem fl_X5_255 : Cond.fieldLink RX5 255 (TX5 14).1 (TX5 14).2.1 (TX5 14).2.2.1 ∈ tG := tG_in (List.mem_of_getElem? (i := 762) (by decide +kernel)) rfl
theorem fl_X5_262 : Cond.fieldLink RX5 262 (TX5 15).1 (TX5 15).2.1 (TX5 15).2.2.1 ∈ tG := tG_in (List.mem_of_getElem? (i := 763) (by decide +kernel)) rfl
theorem fl_X5_48 : Cond.fieldLink RX5 48 (TX5 16).1 (TX5 16).2.1 (TX5 16).2.2.1 ∈ tG := tG_in (List.mem_of_getElem? (i := 764) (by decide +kernel)) rfl
theorem fl_X5_51 : Cond.fieldLink RX5 51 (TX5 17).1 (TX5 17).2.1 (TX5 17).2.2.1 ∈ tG := tG_in (List.mem_of_getElem? (i := 765) (by decide +kernel)) rfl
theorem fl_X5_54 : Cond.fieldLink RX5 54 (TX5 18).1 (TX5 18).2.1 (TX5 18).2.2.1 ∈ tG := tG_in (List.mem_of_getElem? (i := 766) (by decide +kernel)) rfl
theorem fl_X5_57 : Cond.fieldLink RX5 57 (TX5 19).1 (TX5 19).2.1 (TX5 19).2.2.1 ∈ tG := tG_in (List.mem_of_getElem? (i := 767) (by decide +kernel)) rfl
theorem fl_J0_9 : Cond.fieldLink RJ0 9 "java/lang/String" "value" "[B" ∈ tG := tG_in (List.mem_of_getElem? (i := 1207) (by decide +kernel)) rfl
theorem fl_J0_15 : Cond.fieldLink RJ0 15 "java/lang/String" "coder" "B" ∈ tG := tG_in (List.mem_of_getElem? (i := 1208) (by decide +kernel)) rfl
theorem kc_X4_283 : Cond.constant RX4 283 (-1000001) ∈ tG := tG_in (List.mem_of_getElem? (i := 238) (by decide +kernel)) rfl
theorem kc_X4_131 : Cond.constant RX4 131 (99999) ∈ tG := tG_in (List.mem_of_getElem? (i := 338) (by decide +kernel)) rfl
theorem kc_X0_115 : Cond.constant RX0 115 (99999) ∈ tG := tG_in (List.mem_of_getElem? (i := 369) (by decide +kernel)) rfl
theorem kc_J6_265 : Cond.constant RJ6 265 (1431655765) ∈ tG := tG_in (List.mem_of_getElem? (i := 455) (by decide +kernel)) rfl
theorem kc_J6_266 : Cond.constant RJ6 266 (858993459) ∈ tG := tG_in (List.mem_of_getElem? (i := 456) (by decide +kernel)) rfl
theorem kc_J6_267 : Cond.constant RJ6 267 (252645135) ∈ tG := tG_in (List.mem_of_getElem? (i := 457) (by decide +kernel)) rfl
theorem kc_X0_128 : Cond.constant RX0 128 (1103515245) ∈ tG := tG_in (List.mem_of_getElem? (i := 502) (by decide +kernel)) rfl
theorem kc_X5_60 : Cond.constant RX5 60 (-1000001) ∈ tG := tG_in (List.mem_of_getElem? (i := 823) (by decide +kernel)) rfl
theorem kc_X5_112 : Cond.constant RX5 112 (-1000002) ∈ tG := tG_in (List.mem_of_getElem? (i := 868) (by decide +kernel)) rfl
theorem kc_X5_161 : Cond.constant RX5 161 (99999) ∈ tG := tG_in (List.mem_of_getElem? (i := 927) (by decide +kernel)) rfl
theorem kc_X5_165 : Cond.constant RX5 165 (-1000005) ∈ tG := tG_in (List.mem_of_getElem? (i := 928) (by decide +kernel)) rfl
theorem kc_X5_65 : Cond.constant RX5 65 (-1000004) ∈ tG := tG_in (List.mem_of_getElem? (i := 1009) (by decide +kernel)) rfl
theorem kc_X5_206 : Cond.constant RX5 206 (-1000006) ∈ tG := tG_in (List.mem_of_getElem? (i := 1059) (by decide +kernel)) rfl
theorem kc_X5_214 : Cond.constant RX5 214 (1103515245) ∈ tG := tG_in (List.mem_of_getElem? (i := 1076) (by decide +kernel)) rfl
theorem kc_X5_302 : Cond.constant RX5 302 (-1000003) ∈ tG := tG_in (List.mem_of_getElem? (i := 1162) (by decide +kernel)) rfl
theorem kc_X5_303 : Cond.constant RX5 303 (-1000007) ∈ tG := tG_in (List.mem_of_getElem? (i := 1167) (by decide +kernel)) rfl
theorem wi_X0_init : Cond.instanceMethod yX0_init ∈ tG := tG_in (List.mem_of_getElem? (i := 84) (by decide +kernel)) rfl
theorem wc_X0_init : Cond.code yX0_init cX0_init 1 (none : Option Jvm.ClassFile.FieldType) ∈ tG := tG_in (List.mem_of_getElem? (i := 85) (by decide +kernel)) rfl
theorem wi_X0_become : Cond.instanceMethod yX0_become ∈ tG := tG_in (List.mem_of_getElem? (i := 400) (by decide +kernel)) rfl
theorem wv_X0_become : Cond.selects RX0 yX0_become yX0_become ∈ tG := tG_in (List.mem_of_getElem? (i := 401) (by decide +kernel)) rfl
theorem wc_X0_become : Cond.code yX0_become cX0_become 2 (none : Option Jvm.ClassFile.FieldType) ∈ tG := tG_in (List.mem_of_getElem? (i := 402) (by decide +kernel)) rfl
theorem wi_X0_isFull : Cond.instanceMethod yX0_isFull ∈ tG := tG_in (List.mem_of_getElem? (i := 279) (by decide +kernel)) rfl
theorem wv_X0_isFull : Cond.selects RX0 yX0_isFull yX0_isFull ∈ tG := tG_in (List.mem_of_getElem? (i := 280) (by decide +kernel)) rfl
theorem wc_X0_isFull : Cond.code yX0_isFull cX0_isFull 1 (some .boolean) ∈ tG := tG_in (List.mem_of_getElem? (i := 281) (by decide +kernel)) rfl
theorem wi_X0_add : Cond.instanceMethod yX0_add ∈ tG := tG_in (List.mem_of_getElem? (i := 283) (by decide +kernel)) rfl
theorem wv_X0_add : Cond.selects RX0 yX0_add yX0_add ∈ tG := tG_in (List.mem_of_getElem? (i := 284) (by decide +kernel)) rfl
theorem wc_X0_add : Cond.code yX0_add cX0_add 3 (some .int) ∈ tG := tG_in (List.mem_of_getElem? (i := 285) (by decide +kernel)) rfl
theorem wi_X0_sendHome : Cond.instanceMethod yX0_sendHome ∈ tG := tG_in (List.mem_of_getElem? (i := 459) (by decide +kernel)) rfl
theorem wv_X0_sendHome : Cond.selects RX0 yX0_sendHome yX0_sendHome ∈ tG := tG_in (List.mem_of_getElem? (i := 460) (by decide +kernel)) rfl
theorem wc_X0_sendHome : Cond.code yX0_sendHome cX0_sendHome 3 (none : Option Jvm.ClassFile.FieldType) ∈ tG := tG_in (List.mem_of_getElem? (i := 461) (by decide +kernel)) rfl
theorem wi_X0_trait : Cond.instanceMethod yX0_trait ∈ tG := tG_in (List.mem_of_getElem? (i := 313) (by decide +kernel)) rfl
theorem wv_X0_trait : Cond.selects RX0 yX0_trait yX0_trait ∈ tG := tG_in (List.mem_of_getElem? (i := 314) (by decide +kernel)) rfl
theorem wc_X0_trait : Cond.code yX0_trait cX0_trait 2 (some (.array .int)) ∈ tG := tG_in (List.mem_of_getElem? (i := 315) (by decide +kernel)) rfl
theorem wi_X0_needs : Cond.instanceMethod yX0_needs ∈ tG := tG_in (List.mem_of_getElem? (i := 296) (by decide +kernel)) rfl
theorem wv_X0_needs : Cond.selects RX0 yX0_needs yX0_needs ∈ tG := tG_in (List.mem_of_getElem? (i := 297) (by decide +kernel)) rfl
theorem wc_X0_needs : Cond.code yX0_needs cX0_needs 2 (some .int) ∈ tG := tG_in (List.mem_of_getElem? (i := 298) (by decide +kernel)) rfl
theorem wi_X0_placeNow : Cond.instanceMethod yX0_placeNow ∈ tG := tG_in (List.mem_of_getElem? (i := 352) (by decide +kernel)) rfl
theorem wv_X0_placeNow : Cond.selects RX0 yX0_placeNow yX0_placeNow ∈ tG := tG_in (List.mem_of_getElem? (i := 353) (by decide +kernel)) rfl
theorem wc_X0_placeNow : Cond.code yX0_placeNow cX0_placeNow 1 (some .int) ∈ tG := tG_in (List.mem_of_getElem? (i := 354) (by decide +kernel)) rfl
theorem wi_X0_measureNow : Cond.instanceMethod yX0_measureNow ∈ tG := tG_in (List.mem_of_getElem? (i := 348) (by decide +kernel)) rfl
theorem wv_X0_measureNow : Cond.selects RX0 yX0_measureNow yX0_measureNow ∈ tG := tG_in (List.mem_of_getElem? (i := 349) (by decide +kernel)) rfl
theorem wc_X0_measureNow : Cond.code yX0_measureNow cX0_measureNow 1 (some .int) ∈ tG := tG_in (List.mem_of_getElem? (i := 350) (by decide +kernel)) rfl
theorem wi_X0_width : Cond.instanceMethod yX0_width ∈ tG := tG_in (List.mem_of_getElem? (i := 265) (by decide +kernel)) rfl
theorem wv_X0_width : Cond.selects RX0 yX0_width yX0_width ∈ tG := tG_in (List.mem_of_getElem? (i := 266) (by decide +kernel)) rfl
theorem wc_X0_width : Cond.code yX0_width cX0_width 3 (some .int) ∈ tG := tG_in (List.mem_of_getElem? (i := 267) (by decide +kernel)) rfl
theorem wi_X0_reachable : Cond.instanceMethod yX0_reachable ∈ tG := tG_in (List.mem_of_getElem? (i := 329) (by decide +kernel)) rfl
theorem wv_X0_reachable : Cond.selects RX0 yX0_reachable yX0_reachable ∈ tG := tG_in (List.mem_of_getElem? (i := 330) (by decide +kernel)) rfl
theorem wc_X0_reachable : Cond.code yX0_reachable cX0_reachable 6 (some .int) ∈ tG := tG_in (List.mem_of_getElem? (i := 331) (by decide +kernel)) rfl
theorem wi_X0_canReach : Cond.instanceMethod yX0_canReach ∈ tG := tG_in (List.mem_of_getElem? (i := 436) (by decide +kernel)) rfl
theorem wv_X0_canReach : Cond.selects RX0 yX0_canReach yX0_canReach ∈ tG := tG_in (List.mem_of_getElem? (i := 437) (by decide +kernel)) rfl
theorem wc_X0_canReach : Cond.code yX0_canReach cX0_canReach 4 (some .boolean) ∈ tG := tG_in (List.mem_of_getElem? (i := 438) (by decide +kernel)) rfl
theorem wi_X0_measuresToAim : Cond.instanceMethod yX0_measuresToAim ∈ tG := tG_in (List.mem_of_getElem? (i := 508) (by decide +kernel)) rfl
theorem wv_X0_measuresToAim : Cond.selects RX0 yX0_measuresToAim yX0_measuresToAim ∈ tG := tG_in (List.mem_of_getElem? (i := 509) (by decide +kernel)) rfl
theorem wc_X0_measuresToAim : Cond.code yX0_measuresToAim cX0_measuresToAim 4 (some .int) ∈ tG := tG_in (List.mem_of_getElem? (i := 510) (by decide +kernel)) rfl
theorem wi_X0_passHours : Cond.instanceMethod yX0_passHours ∈ tG := tG_in (List.mem_of_getElem? (i := 340) (by decide +kernel)) rfl
theorem wv_X0_passHours : Cond.selects RX0 yX0_passHours yX0_passHours ∈ tG := tG_in (List.mem_of_getElem? (i := 341) (by decide +kernel)) rfl
theorem wc_X0_passHours : Cond.code yX0_passHours cX0_passHours 3 (none : Option Jvm.ClassFile.FieldType) ∈ tG := tG_in (List.mem_of_getElem? (i := 342) (by decide +kernel)) rfl
theorem wi_X0_holdsFor : Cond.instanceMethod yX0_holdsFor ∈ tG := tG_in (List.mem_of_getElem? (i := 428) (by decide +kernel)) rfl
theorem wv_X0_holdsFor : Cond.selects RX0 yX0_holdsFor yX0_holdsFor ∈ tG := tG_in (List.mem_of_getElem? (i := 429) (by decide +kernel)) rfl
theorem wc_X0_holdsFor : Cond.code yX0_holdsFor cX0_holdsFor 3 (some .boolean) ∈ tG := tG_in (List.mem_of_getElem? (i := 430) (by decide +kernel)) rfl
theorem wi_X0_passHour : Cond.instanceMethod yX0_passHour ∈ tG := tG_in (List.mem_of_getElem? (i := 344) (by decide +kernel)) rfl
theorem wv_X0_passHour : Cond.selects RX0 yX0_passHour yX0_passHour ∈ tG := tG_in (List.mem_of_getElem? (i := 345) (by decide +kernel)) rfl
theorem wc_X0_passHour : Cond.code yX0_passHour cX0_passHour 3 (none : Option Jvm.ClassFile.FieldType) ∈ tG := tG_in (List.mem_of_getElem? (i := 346) (by decide +kernel)) rfl
theorem wi_X0_walk : Cond.instanceMethod yX0_walk ∈ tG := tG_in (List.mem_of_getElem? (i := 357) (by decide +kernel)) rfl
theorem wv_X0_walk : Cond.selects RX0 yX0_walk yX0_walk ∈ tG := tG_in (List.mem_of_getElem? (i := 2) (by decide +kernel)) rfl
theorem wc_X0_walk : Cond.code yX0_walk cX0_walk 7 (none : Option Jvm.ClassFile.FieldType) ∈ tG := tG_in (List.mem_of_getElem? (i := 358) (by decide +kernel)) rfl
theorem wi_X0_pull : Cond.instanceMethod yX0_pull ∈ tG := tG_in (List.mem_of_getElem? (i := 365) (by decide +kernel)) rfl
theorem wv_X0_pull : Cond.selects RX0 yX0_pull yX0_pull ∈ tG := tG_in (List.mem_of_getElem? (i := 3) (by decide +kernel)) rfl
theorem wc_X0_pull : Cond.code yX0_pull cX0_pull 5 (none : Option Jvm.ClassFile.FieldType) ∈ tG := tG_in (List.mem_of_getElem? (i := 366) (by decide +kernel)) rfl
theorem wi_X0_draw : Cond.instanceMethod yX0_draw ∈ tG := tG_in (List.mem_of_getElem? (i := 500) (by decide +kernel)) rfl
theorem wv_X0_draw : Cond.selects RX0 yX0_draw yX0_draw ∈ tG := tG_in (List.mem_of_getElem? (i := 8) (by decide +kernel)) rfl
theorem wc_X0_draw : Cond.code yX0_draw cX0_draw 1 (some .int) ∈ tG := tG_in (List.mem_of_getElem? (i := 501) (by decide +kernel)) rfl
theorem wi_X0_passPartyHour : Cond.instanceMethod yX0_passPartyHour ∈ tG := tG_in (List.mem_of_getElem? (i := 495) (by decide +kernel)) rfl
theorem wv_X0_passPartyHour : Cond.selects RX0 yX0_passPartyHour yX0_passPartyHour ∈ tG := tG_in (List.mem_of_getElem? (i := 496) (by decide +kernel)) rfl
theorem wc_X0_passPartyHour : Cond.code yX0_passPartyHour cX0_passPartyHour 2 (none : Option Jvm.ClassFile.FieldType) ∈ tG := tG_in (List.mem_of_getElem? (i := 497) (by decide +kernel)) rfl
theorem wi_X0_thoseStuck : Cond.instanceMethod yX0_thoseStuck ∈ tG := tG_in (List.mem_of_getElem? (i := 376) (by decide +kernel)) rfl
theorem wv_X0_thoseStuck : Cond.selects RX0 yX0_thoseStuck yX0_thoseStuck ∈ tG := tG_in (List.mem_of_getElem? (i := 377) (by decide +kernel)) rfl
theorem wc_X0_thoseStuck : Cond.code yX0_thoseStuck cX0_thoseStuck 3 (some .int) ∈ tG := tG_in (List.mem_of_getElem? (i := 378) (by decide +kernel)) rfl
theorem wi_X0_thoseAtAim : Cond.instanceMethod yX0_thoseAtAim ∈ tG := tG_in (List.mem_of_getElem? (i := 380) (by decide +kernel)) rfl
theorem wv_X0_thoseAtAim : Cond.selects RX0 yX0_thoseAtAim yX0_thoseAtAim ∈ tG := tG_in (List.mem_of_getElem? (i := 381) (by decide +kernel)) rfl
theorem wc_X0_thoseAtAim : Cond.code yX0_thoseAtAim cX0_thoseAtAim 3 (some .int) ∈ tG := tG_in (List.mem_of_getElem? (i := 382) (by decide +kernel)) rfl
theorem wi_X0_thoseInHall : Cond.instanceMethod yX0_thoseInHall ∈ tG := tG_in (List.mem_of_getElem? (i := 384) (by decide +kernel)) rfl
theorem wv_X0_thoseInHall : Cond.selects RX0 yX0_thoseInHall yX0_thoseInHall ∈ tG := tG_in (List.mem_of_getElem? (i := 385) (by decide +kernel)) rfl
theorem wc_X0_thoseInHall : Cond.code yX0_thoseInHall cX0_thoseInHall 3 (some .int) ∈ tG := tG_in (List.mem_of_getElem? (i := 386) (by decide +kernel)) rfl
theorem wi_X0_closedCells : Cond.instanceMethod yX0_closedCells ∈ tG := tG_in (List.mem_of_getElem? (i := 388) (by decide +kernel)) rfl
theorem wv_X0_closedCells : Cond.selects RX0 yX0_closedCells yX0_closedCells ∈ tG := tG_in (List.mem_of_getElem? (i := 389) (by decide +kernel)) rfl
theorem wc_X0_closedCells : Cond.code yX0_closedCells cX0_closedCells 4 (some .int) ∈ tG := tG_in (List.mem_of_getElem? (i := 390) (by decide +kernel)) rfl
theorem wi_X0_howManyHome : Cond.instanceMethod yX0_howManyHome ∈ tG := tG_in (List.mem_of_getElem? (i := 722) (by decide +kernel)) rfl
theorem wv_X0_howManyHome : Cond.selects RX0 yX0_howManyHome yX0_howManyHome ∈ tG := tG_in (List.mem_of_getElem? (i := 723) (by decide +kernel)) rfl
theorem wc_X0_howManyHome : Cond.code yX0_howManyHome cX0_howManyHome 3 (some .int) ∈ tG := tG_in (List.mem_of_getElem? (i := 724) (by decide +kernel)) rfl
theorem wi_X0_howManyHeld : Cond.instanceMethod yX0_howManyHeld ∈ tG := tG_in (List.mem_of_getElem? (i := 726) (by decide +kernel)) rfl
theorem wv_X0_howManyHeld : Cond.selects RX0 yX0_howManyHeld yX0_howManyHeld ∈ tG := tG_in (List.mem_of_getElem? (i := 727) (by decide +kernel)) rfl
theorem wc_X0_howManyHeld : Cond.code yX0_howManyHeld cX0_howManyHeld 3 (some .int) ∈ tG := tG_in (List.mem_of_getElem? (i := 728) (by decide +kernel)) rfl
theorem ws_X1_needs : Cond.static yX1_needs ∈ tG := tG_in (List.mem_of_getElem? (i := 300) (by decide +kernel)) rfl
theorem wc_X1_needs : Cond.code yX1_needs cX1_needs 6 (some .int) ∈ tG := tG_in (List.mem_of_getElem? (i := 301) (by decide +kernel)) rfl
theorem ws_X1_steps : Cond.static yX1_steps ∈ tG := tG_in (List.mem_of_getElem? (i := 304) (by decide +kernel)) rfl
theorem wc_X1_steps : Cond.code yX1_steps cX1_steps 1 (some .int) ∈ tG := tG_in (List.mem_of_getElem? (i := 305) (by decide +kernel)) rfl
theorem ws_X1_laughs : Cond.static yX1_laughs ∈ tG := tG_in (List.mem_of_getElem? (i := 307) (by decide +kernel)) rfl
theorem wc_X1_laughs : Cond.code yX1_laughs cX1_laughs 2 (some .int) ∈ tG := tG_in (List.mem_of_getElem? (i := 308) (by decide +kernel)) rfl
theorem ws_X1_laces : Cond.static yX1_laces ∈ tG := tG_in (List.mem_of_getElem? (i := 310) (by decide +kernel)) rfl
theorem wc_X1_laces : Cond.code yX1_laces cX1_laces 1 (some .int) ∈ tG := tG_in (List.mem_of_getElem? (i := 311) (by decide +kernel)) rfl
theorem ws_X1_isUnder : Cond.static yX1_isUnder ∈ tG := tG_in (List.mem_of_getElem? (i := 663) (by decide +kernel)) rfl
theorem wc_X1_isUnder : Cond.code yX1_isUnder cX1_isUnder 4 (some .boolean) ∈ tG := tG_in (List.mem_of_getElem? (i := 664) (by decide +kernel)) rfl
theorem wi_X2_init : Cond.instanceMethod yX2_init ∈ tG := tG_in (List.mem_of_getElem? (i := 159) (by decide +kernel)) rfl
theorem wc_X2_init : Cond.code yX2_init cX2_init 1 (none : Option Jvm.ClassFile.FieldType) ∈ tG := tG_in (List.mem_of_getElem? (i := 160) (by decide +kernel)) rfl
theorem ws_X2_isSheet : Cond.static yX2_isSheet ∈ tG := tG_in (List.mem_of_getElem? (i := 475) (by decide +kernel)) rfl
theorem wc_X2_isSheet : Cond.code yX2_isSheet cX2_isSheet 1 (some .boolean) ∈ tG := tG_in (List.mem_of_getElem? (i := 476) (by decide +kernel)) rfl
theorem ws_X2_areBits : Cond.static yX2_areBits ∈ tG := tG_in (List.mem_of_getElem? (i := 672) (by decide +kernel)) rfl
theorem wc_X2_areBits : Cond.code yX2_areBits cX2_areBits 1 (some .boolean) ∈ tG := tG_in (List.mem_of_getElem? (i := 673) (by decide +kernel)) rfl
theorem wi_X2_isMissing : Cond.instanceMethod yX2_isMissing ∈ tG := tG_in (List.mem_of_getElem? (i := 478) (by decide +kernel)) rfl
theorem wv_X2_isMissing : Cond.selects RX2 yX2_isMissing yX2_isMissing ∈ tG := tG_in (List.mem_of_getElem? (i := 479) (by decide +kernel)) rfl
theorem wc_X2_isMissing : Cond.code yX2_isMissing cX2_isMissing 2 (some .boolean) ∈ tG := tG_in (List.mem_of_getElem? (i := 480) (by decide +kernel)) rfl
theorem wi_X2_make : Cond.instanceMethod yX2_make ∈ tG := tG_in (List.mem_of_getElem? (i := 675) (by decide +kernel)) rfl
theorem wv_X2_make : Cond.selects RX2 yX2_make yX2_make ∈ tG := tG_in (List.mem_of_getElem? (i := 676) (by decide +kernel)) rfl
theorem wc_X2_make : Cond.code yX2_make cX2_make 4 (some .int) ∈ tG := tG_in (List.mem_of_getElem? (i := 677) (by decide +kernel)) rfl
theorem wi_X2_put : Cond.instanceMethod yX2_put ∈ tG := tG_in (List.mem_of_getElem? (i := 684) (by decide +kernel)) rfl
theorem wv_X2_put : Cond.selects RX2 yX2_put yX2_put ∈ tG := tG_in (List.mem_of_getElem? (i := 685) (by decide +kernel)) rfl
theorem wc_X2_put : Cond.code yX2_put cX2_put 5 (none : Option Jvm.ClassFile.FieldType) ∈ tG := tG_in (List.mem_of_getElem? (i := 686) (by decide +kernel)) rfl
theorem wi_X2_hasRange : Cond.instanceMethod yX2_hasRange ∈ tG := tG_in (List.mem_of_getElem? (i := 692) (by decide +kernel)) rfl
theorem wv_X2_hasRange : Cond.selects RX2 yX2_hasRange yX2_hasRange ∈ tG := tG_in (List.mem_of_getElem? (i := 693) (by decide +kernel)) rfl
theorem wc_X2_hasRange : Cond.code yX2_hasRange cX2_hasRange 4 (some .boolean) ∈ tG := tG_in (List.mem_of_getElem? (i := 694) (by decide +kernel)) rfl
theorem wi_X3_init : Cond.instanceMethod yX3_init ∈ tG := tG_in (List.mem_of_getElem? (i := 180) (by decide +kernel)) rfl
theorem wc_X3_init : Cond.code yX3_init cX3_init 1 (none : Option Jvm.ClassFile.FieldType) ∈ tG := tG_in (List.mem_of_getElem? (i := 181) (by decide +kernel)) rfl
theorem wi_X3_hasRoomFor : Cond.instanceMethod yX3_hasRoomFor ∈ tG := tG_in (List.mem_of_getElem? (i := 524) (by decide +kernel)) rfl
theorem wv_X3_hasRoomFor : Cond.selects RX3 yX3_hasRoomFor yX3_hasRoomFor ∈ tG := tG_in (List.mem_of_getElem? (i := 525) (by decide +kernel)) rfl
theorem wc_X3_hasRoomFor : Cond.code yX3_hasRoomFor cX3_hasRoomFor 2 (some .boolean) ∈ tG := tG_in (List.mem_of_getElem? (i := 526) (by decide +kernel)) rfl
theorem wi_X3_add : Cond.instanceMethod yX3_add ∈ tG := tG_in (List.mem_of_getElem? (i := 528) (by decide +kernel)) rfl
theorem wv_X3_add : Cond.selects RX3 yX3_add yX3_add ∈ tG := tG_in (List.mem_of_getElem? (i := 529) (by decide +kernel)) rfl
theorem wc_X3_add : Cond.code yX3_add cX3_add 2 (none : Option Jvm.ClassFile.FieldType) ∈ tG := tG_in (List.mem_of_getElem? (i := 530) (by decide +kernel)) rfl
theorem wi_X3_read : Cond.instanceMethod yX3_read ∈ tG := tG_in (List.mem_of_getElem? (i := 541) (by decide +kernel)) rfl
theorem wv_X3_read : Cond.selects RX3 yX3_read yX3_read ∈ tG := tG_in (List.mem_of_getElem? (i := 542) (by decide +kernel)) rfl
theorem wc_X3_read : Cond.code yX3_read cX3_read 3 (some .int) ∈ tG := tG_in (List.mem_of_getElem? (i := 543) (by decide +kernel)) rfl
theorem wi_X3_readItem : Cond.instanceMethod yX3_readItem ∈ tG := tG_in (List.mem_of_getElem? (i := 557) (by decide +kernel)) rfl
theorem wv_X3_readItem : Cond.selects RX3 yX3_readItem yX3_readItem ∈ tG := tG_in (List.mem_of_getElem? (i := 10) (by decide +kernel)) rfl
theorem wc_X3_readItem : Cond.code yX3_readItem cX3_readItem 3 (some .boolean) ∈ tG := tG_in (List.mem_of_getElem? (i := 558) (by decide +kernel)) rfl
theorem wi_X3_readGuest : Cond.instanceMethod yX3_readGuest ∈ tG := tG_in (List.mem_of_getElem? (i := 627) (by decide +kernel)) rfl
theorem wv_X3_readGuest : Cond.selects RX3 yX3_readGuest yX3_readGuest ∈ tG := tG_in (List.mem_of_getElem? (i := 13) (by decide +kernel)) rfl
theorem wc_X3_readGuest : Cond.code yX3_readGuest cX3_readGuest 5 (some .boolean) ∈ tG := tG_in (List.mem_of_getElem? (i := 628) (by decide +kernel)) rfl
theorem wi_X3_readTrait : Cond.instanceMethod yX3_readTrait ∈ tG := tG_in (List.mem_of_getElem? (i := 639) (by decide +kernel)) rfl
theorem wv_X3_readTrait : Cond.selects RX3 yX3_readTrait yX3_readTrait ∈ tG := tG_in (List.mem_of_getElem? (i := 15) (by decide +kernel)) rfl
theorem wc_X3_readTrait : Cond.code yX3_readTrait cX3_readTrait 6 (some .boolean) ∈ tG := tG_in (List.mem_of_getElem? (i := 640) (by decide +kernel)) rfl
theorem wi_X3_readPair : Cond.instanceMethod yX3_readPair ∈ tG := tG_in (List.mem_of_getElem? (i := 645) (by decide +kernel)) rfl
theorem wv_X3_readPair : Cond.selects RX3 yX3_readPair yX3_readPair ∈ tG := tG_in (List.mem_of_getElem? (i := 16) (by decide +kernel)) rfl
theorem wc_X3_readPair : Cond.code yX3_readPair cX3_readPair 5 (some .boolean) ∈ tG := tG_in (List.mem_of_getElem? (i := 646) (by decide +kernel)) rfl
theorem wi_X3_takeNumber : Cond.instanceMethod yX3_takeNumber ∈ tG := tG_in (List.mem_of_getElem? (i := 633) (by decide +kernel)) rfl
theorem wv_X3_takeNumber : Cond.selects RX3 yX3_takeNumber yX3_takeNumber ∈ tG := tG_in (List.mem_of_getElem? (i := 14) (by decide +kernel)) rfl
theorem wc_X3_takeNumber : Cond.code yX3_takeNumber cX3_takeNumber 3 (some .boolean) ∈ tG := tG_in (List.mem_of_getElem? (i := 634) (by decide +kernel)) rfl
theorem wi_X3_kindTold : Cond.instanceMethod yX3_kindTold ∈ tG := tG_in (List.mem_of_getElem? (i := 561) (by decide +kernel)) rfl
theorem wv_X3_kindTold : Cond.selects RX3 yX3_kindTold yX3_kindTold ∈ tG := tG_in (List.mem_of_getElem? (i := 11) (by decide +kernel)) rfl
theorem wc_X3_kindTold : Cond.code yX3_kindTold cX3_kindTold 2 (some .int) ∈ tG := tG_in (List.mem_of_getElem? (i := 562) (by decide +kernel)) rfl
theorem ws_X3_wordOf : Cond.static yX3_wordOf ∈ tG := tG_in (List.mem_of_getElem? (i := 564) (by decide +kernel)) rfl
theorem wc_X3_wordOf : Cond.code yX3_wordOf cX3_wordOf 1 (some (.object "java/lang/String")) ∈ tG := tG_in (List.mem_of_getElem? (i := 565) (by decide +kernel)) rfl
theorem wi_X3_isWord : Cond.instanceMethod yX3_isWord ∈ tG := tG_in (List.mem_of_getElem? (i := 575) (by decide +kernel)) rfl
theorem wv_X3_isWord : Cond.selects RX3 yX3_isWord yX3_isWord ∈ tG := tG_in (List.mem_of_getElem? (i := 12) (by decide +kernel)) rfl
theorem wc_X3_isWord : Cond.code yX3_isWord cX3_isWord 3 (some .boolean) ∈ tG := tG_in (List.mem_of_getElem? (i := 576) (by decide +kernel)) rfl
theorem wi_X3_next : Cond.instanceMethod yX3_next ∈ tG := tG_in (List.mem_of_getElem? (i := 546) (by decide +kernel)) rfl
theorem wv_X3_next : Cond.selects RX3 yX3_next yX3_next ∈ tG := tG_in (List.mem_of_getElem? (i := 9) (by decide +kernel)) rfl
theorem wc_X3_next : Cond.code yX3_next cX3_next 1 (none : Option Jvm.ClassFile.FieldType) ∈ tG := tG_in (List.mem_of_getElem? (i := 547) (by decide +kernel)) rfl
theorem ws_X3_isLetter : Cond.static yX3_isLetter ∈ tG := tG_in (List.mem_of_getElem? (i := 549) (by decide +kernel)) rfl
theorem wc_X3_isLetter : Cond.code yX3_isLetter cX3_isLetter 1 (some .boolean) ∈ tG := tG_in (List.mem_of_getElem? (i := 550) (by decide +kernel)) rfl
theorem ws_X3_isDigit : Cond.static yX3_isDigit ∈ tG := tG_in (List.mem_of_getElem? (i := 552) (by decide +kernel)) rfl
theorem wc_X3_isDigit : Cond.code yX3_isDigit cX3_isDigit 1 (some .boolean) ∈ tG := tG_in (List.mem_of_getElem? (i := 553) (by decide +kernel)) rfl
theorem wi_X4_init : Cond.instanceMethod yX4_init ∈ tG := tG_in (List.mem_of_getElem? (i := 76) (by decide +kernel)) rfl
theorem wc_X4_init : Cond.code yX4_init cX4_init 1 (none : Option Jvm.ClassFile.FieldType) ∈ tG := tG_in (List.mem_of_getElem? (i := 77) (by decide +kernel)) rfl
theorem wi_X4_set : Cond.instanceMethod yX4_set ∈ tG := tG_in (List.mem_of_getElem? (i := 226) (by decide +kernel)) rfl
theorem wv_X4_set : Cond.selects RX4 yX4_set yX4_set ∈ tG := tG_in (List.mem_of_getElem? (i := 227) (by decide +kernel)) rfl
theorem wc_X4_set : Cond.code yX4_set cX4_set 4 (some .int) ∈ tG := tG_in (List.mem_of_getElem? (i := 228) (by decide +kernel)) rfl
theorem wi_X4_cell : Cond.instanceMethod yX4_cell ∈ tG := tG_in (List.mem_of_getElem? (i := 240) (by decide +kernel)) rfl
theorem wv_X4_cell : Cond.selects RX4 yX4_cell yX4_cell ∈ tG := tG_in (List.mem_of_getElem? (i := 241) (by decide +kernel)) rfl
theorem wc_X4_cell : Cond.code yX4_cell cX4_cell 4 (some .int) ∈ tG := tG_in (List.mem_of_getElem? (i := 242) (by decide +kernel)) rfl
theorem wi_X4_measure : Cond.instanceMethod yX4_measure ∈ tG := tG_in (List.mem_of_getElem? (i := 247) (by decide +kernel)) rfl
theorem wv_X4_measure : Cond.selects RX4 yX4_measure yX4_measure ∈ tG := tG_in (List.mem_of_getElem? (i := 248) (by decide +kernel)) rfl
theorem wc_X4_measure : Cond.code yX4_measure cX4_measure 4 (some .int) ∈ tG := tG_in (List.mem_of_getElem? (i := 249) (by decide +kernel)) rfl
theorem wi_X4_listed : Cond.instanceMethod yX4_listed ∈ tG := tG_in (List.mem_of_getElem? (i := 257) (by decide +kernel)) rfl
theorem wv_X4_listed : Cond.selects RX4 yX4_listed yX4_listed ∈ tG := tG_in (List.mem_of_getElem? (i := 258) (by decide +kernel)) rfl
theorem wc_X4_listed : Cond.code yX4_listed cX4_listed 2 (some .int) ∈ tG := tG_in (List.mem_of_getElem? (i := 259) (by decide +kernel)) rfl
theorem wi_X4_wide : Cond.instanceMethod yX4_wide ∈ tG := tG_in (List.mem_of_getElem? (i := 261) (by decide +kernel)) rfl
theorem wv_X4_wide : Cond.selects RX4 yX4_wide yX4_wide ∈ tG := tG_in (List.mem_of_getElem? (i := 262) (by decide +kernel)) rfl
theorem wc_X4_wide : Cond.code yX4_wide cX4_wide 3 (some .int) ∈ tG := tG_in (List.mem_of_getElem? (i := 263) (by decide +kernel)) rfl
theorem wi_X4_guest : Cond.instanceMethod yX4_guest ∈ tG := tG_in (List.mem_of_getElem? (i := 272) (by decide +kernel)) rfl
theorem wv_X4_guest : Cond.selects RX4 yX4_guest yX4_guest ∈ tG := tG_in (List.mem_of_getElem? (i := 273) (by decide +kernel)) rfl
theorem wc_X4_guest : Cond.code yX4_guest cX4_guest 3 (some .int) ∈ tG := tG_in (List.mem_of_getElem? (i := 274) (by decide +kernel)) rfl
theorem wi_X4_of : Cond.instanceMethod yX4_of ∈ tG := tG_in (List.mem_of_getElem? (i := 288) (by decide +kernel)) rfl
theorem wv_X4_of : Cond.selects RX4 yX4_of yX4_of ∈ tG := tG_in (List.mem_of_getElem? (i := 289) (by decide +kernel)) rfl
theorem wc_X4_of : Cond.code yX4_of cX4_of 3 (some .int) ∈ tG := tG_in (List.mem_of_getElem? (i := 290) (by decide +kernel)) rfl
theorem wi_X4_change : Cond.instanceMethod yX4_change ∈ tG := tG_in (List.mem_of_getElem? (i := 317) (by decide +kernel)) rfl
theorem wv_X4_change : Cond.selects RX4 yX4_change yX4_change ∈ tG := tG_in (List.mem_of_getElem? (i := 318) (by decide +kernel)) rfl
theorem wc_X4_change : Cond.code yX4_change cX4_change 6 (some .int) ∈ tG := tG_in (List.mem_of_getElem? (i := 319) (by decide +kernel)) rfl
theorem wi_X4_reach : Cond.instanceMethod yX4_reach ∈ tG := tG_in (List.mem_of_getElem? (i := 325) (by decide +kernel)) rfl
theorem wv_X4_reach : Cond.selects RX4 yX4_reach yX4_reach ∈ tG := tG_in (List.mem_of_getElem? (i := 326) (by decide +kernel)) rfl
theorem wc_X4_reach : Cond.code yX4_reach cX4_reach 3 (some .int) ∈ tG := tG_in (List.mem_of_getElem? (i := 327) (by decide +kernel)) rfl
theorem wi_X4_go : Cond.instanceMethod yX4_go ∈ tG := tG_in (List.mem_of_getElem? (i := 335) (by decide +kernel)) rfl
theorem wv_X4_go : Cond.selects RX4 yX4_go yX4_go ∈ tG := tG_in (List.mem_of_getElem? (i := 336) (by decide +kernel)) rfl
theorem wc_X4_go : Cond.code yX4_go cX4_go 2 (some .int) ∈ tG := tG_in (List.mem_of_getElem? (i := 337) (by decide +kernel)) rfl
theorem wi_X4_now : Cond.instanceMethod yX4_now ∈ tG := tG_in (List.mem_of_getElem? (i := 371) (by decide +kernel)) rfl
theorem wv_X4_now : Cond.selects RX4 yX4_now yX4_now ∈ tG := tG_in (List.mem_of_getElem? (i := 372) (by decide +kernel)) rfl
theorem wc_X4_now : Cond.code yX4_now cX4_now 2 (some .int) ∈ tG := tG_in (List.mem_of_getElem? (i := 373) (by decide +kernel)) rfl
theorem wi_X4_ahead : Cond.instanceMethod yX4_ahead ∈ tG := tG_in (List.mem_of_getElem? (i := 392) (by decide +kernel)) rfl
theorem wv_X4_ahead : Cond.selects RX4 yX4_ahead yX4_ahead ∈ tG := tG_in (List.mem_of_getElem? (i := 393) (by decide +kernel)) rfl
theorem wc_X4_ahead : Cond.code yX4_ahead cX4_ahead 4 (some .int) ∈ tG := tG_in (List.mem_of_getElem? (i := 394) (by decide +kernel)) rfl
theorem wi_X4_strain : Cond.instanceMethod yX4_strain ∈ tG := tG_in (List.mem_of_getElem? (i := 407) (by decide +kernel)) rfl
theorem wv_X4_strain : Cond.selects RX4 yX4_strain yX4_strain ∈ tG := tG_in (List.mem_of_getElem? (i := 408) (by decide +kernel)) rfl
theorem wc_X4_strain : Cond.code yX4_strain cX4_strain 2 (some .int) ∈ tG := tG_in (List.mem_of_getElem? (i := 409) (by decide +kernel)) rfl
theorem wi_X4_snaps : Cond.instanceMethod yX4_snaps ∈ tG := tG_in (List.mem_of_getElem? (i := 411) (by decide +kernel)) rfl
theorem wv_X4_snaps : Cond.selects RX4 yX4_snaps yX4_snaps ∈ tG := tG_in (List.mem_of_getElem? (i := 412) (by decide +kernel)) rfl
theorem wc_X4_snaps : Cond.code yX4_snaps cX4_snaps 2 (some .int) ∈ tG := tG_in (List.mem_of_getElem? (i := 413) (by decide +kernel)) rfl
theorem wi_X4_comes : Cond.instanceMethod yX4_comes ∈ tG := tG_in (List.mem_of_getElem? (i := 416) (by decide +kernel)) rfl
theorem wv_X4_comes : Cond.selects RX4 yX4_comes yX4_comes ∈ tG := tG_in (List.mem_of_getElem? (i := 417) (by decide +kernel)) rfl
theorem wc_X4_comes : Cond.code yX4_comes cX4_comes 4 (some .int) ∈ tG := tG_in (List.mem_of_getElem? (i := 418) (by decide +kernel)) rfl
theorem wi_X4_stuck : Cond.instanceMethod yX4_stuck ∈ tG := tG_in (List.mem_of_getElem? (i := 420) (by decide +kernel)) rfl
theorem wv_X4_stuck : Cond.selects RX4 yX4_stuck yX4_stuck ∈ tG := tG_in (List.mem_of_getElem? (i := 421) (by decide +kernel)) rfl
theorem wc_X4_stuck : Cond.code yX4_stuck cX4_stuck 4 (some .int) ∈ tG := tG_in (List.mem_of_getElem? (i := 422) (by decide +kernel)) rfl
theorem wi_X4_tight : Cond.instanceMethod yX4_tight ∈ tG := tG_in (List.mem_of_getElem? (i := 424) (by decide +kernel)) rfl
theorem wv_X4_tight : Cond.selects RX4 yX4_tight yX4_tight ∈ tG := tG_in (List.mem_of_getElem? (i := 425) (by decide +kernel)) rfl
theorem wc_X4_tight : Cond.code yX4_tight cX4_tight 4 (some .int) ∈ tG := tG_in (List.mem_of_getElem? (i := 426) (by decide +kernel)) rfl
theorem wi_X4_measureFor : Cond.instanceMethod yX4_measureFor ∈ tG := tG_in (List.mem_of_getElem? (i := 432) (by decide +kernel)) rfl
theorem wv_X4_measureFor : Cond.selects RX4 yX4_measureFor yX4_measureFor ∈ tG := tG_in (List.mem_of_getElem? (i := 433) (by decide +kernel)) rfl
theorem wc_X4_measureFor : Cond.code yX4_measureFor cX4_measureFor 4 (some .int) ∈ tG := tG_in (List.mem_of_getElem? (i := 434) (by decide +kernel)) rfl
theorem wi_X4_kindFor : Cond.instanceMethod yX4_kindFor ∈ tG := tG_in (List.mem_of_getElem? (i := 441) (by decide +kernel)) rfl
theorem wv_X4_kindFor : Cond.selects RX4 yX4_kindFor yX4_kindFor ∈ tG := tG_in (List.mem_of_getElem? (i := 442) (by decide +kernel)) rfl
theorem wc_X4_kindFor : Cond.code yX4_kindFor cX4_kindFor 6 (some .int) ∈ tG := tG_in (List.mem_of_getElem? (i := 443) (by decide +kernel)) rfl
theorem wi_X4_sizeFor : Cond.instanceMethod yX4_sizeFor ∈ tG := tG_in (List.mem_of_getElem? (i := 445) (by decide +kernel)) rfl
theorem wv_X4_sizeFor : Cond.selects RX4 yX4_sizeFor yX4_sizeFor ∈ tG := tG_in (List.mem_of_getElem? (i := 446) (by decide +kernel)) rfl
theorem wc_X4_sizeFor : Cond.code yX4_sizeFor cX4_sizeFor 4 (some .int) ∈ tG := tG_in (List.mem_of_getElem? (i := 447) (by decide +kernel)) rfl
theorem wi_X4_send : Cond.instanceMethod yX4_send ∈ tG := tG_in (List.mem_of_getElem? (i := 449) (by decide +kernel)) rfl
theorem wv_X4_send : Cond.selects RX4 yX4_send yX4_send ∈ tG := tG_in (List.mem_of_getElem? (i := 450) (by decide +kernel)) rfl
theorem wc_X4_send : Cond.code yX4_send cX4_send 5 (some .int) ∈ tG := tG_in (List.mem_of_getElem? (i := 451) (by decide +kernel)) rfl
theorem wi_X4_fits : Cond.instanceMethod yX4_fits ∈ tG := tG_in (List.mem_of_getElem? (i := 463) (by decide +kernel)) rfl
theorem wv_X4_fits : Cond.selects RX4 yX4_fits yX4_fits ∈ tG := tG_in (List.mem_of_getElem? (i := 464) (by decide +kernel)) rfl
theorem wc_X4_fits : Cond.code yX4_fits cX4_fits 6 (some .int) ∈ tG := tG_in (List.mem_of_getElem? (i := 465) (by decide +kernel)) rfl
theorem wi_X4_kinds : Cond.instanceMethod yX4_kinds ∈ tG := tG_in (List.mem_of_getElem? (i := 487) (by decide +kernel)) rfl
theorem wv_X4_kinds : Cond.selects RX4 yX4_kinds yX4_kinds ∈ tG := tG_in (List.mem_of_getElem? (i := 488) (by decide +kernel)) rfl
theorem wc_X4_kinds : Cond.code yX4_kinds cX4_kinds 6 (some .int) ∈ tG := tG_in (List.mem_of_getElem? (i := 489) (by decide +kernel)) rfl
theorem wi_X4_party : Cond.instanceMethod yX4_party ∈ tG := tG_in (List.mem_of_getElem? (i := 491) (by decide +kernel)) rfl
theorem wv_X4_party : Cond.selects RX4 yX4_party yX4_party ∈ tG := tG_in (List.mem_of_getElem? (i := 492) (by decide +kernel)) rfl
theorem wc_X4_party : Cond.code yX4_party cX4_party 3 (some .int) ∈ tG := tG_in (List.mem_of_getElem? (i := 493) (by decide +kernel)) rfl
theorem wi_X4_odds : Cond.instanceMethod yX4_odds ∈ tG := tG_in (List.mem_of_getElem? (i := 504) (by decide +kernel)) rfl
theorem wv_X4_odds : Cond.selects RX4 yX4_odds yX4_odds ∈ tG := tG_in (List.mem_of_getElem? (i := 505) (by decide +kernel)) rfl
theorem wc_X4_odds : Cond.code yX4_odds cX4_odds 10 (some .long) ∈ tG := tG_in (List.mem_of_getElem? (i := 506) (by decide +kernel)) rfl
theorem wi_X4_seed : Cond.instanceMethod yX4_seed ∈ tG := tG_in (List.mem_of_getElem? (i := 516) (by decide +kernel)) rfl
theorem wv_X4_seed : Cond.selects RX4 yX4_seed yX4_seed ∈ tG := tG_in (List.mem_of_getElem? (i := 517) (by decide +kernel)) rfl
theorem wc_X4_seed : Cond.code yX4_seed cX4_seed 3 (some .int) ∈ tG := tG_in (List.mem_of_getElem? (i := 518) (by decide +kernel)) rfl
theorem wi_X4_feed : Cond.instanceMethod yX4_feed ∈ tG := tG_in (List.mem_of_getElem? (i := 520) (by decide +kernel)) rfl
theorem wv_X4_feed : Cond.selects RX4 yX4_feed yX4_feed ∈ tG := tG_in (List.mem_of_getElem? (i := 521) (by decide +kernel)) rfl
theorem wc_X4_feed : Cond.code yX4_feed cX4_feed 4 (some .int) ∈ tG := tG_in (List.mem_of_getElem? (i := 522) (by decide +kernel)) rfl
theorem wi_X4_wipe : Cond.instanceMethod yX4_wipe ∈ tG := tG_in (List.mem_of_getElem? (i := 533) (by decide +kernel)) rfl
theorem wv_X4_wipe : Cond.selects RX4 yX4_wipe yX4_wipe ∈ tG := tG_in (List.mem_of_getElem? (i := 534) (by decide +kernel)) rfl
theorem wc_X4_wipe : Cond.code yX4_wipe cX4_wipe 2 (some .int) ∈ tG := tG_in (List.mem_of_getElem? (i := 535) (by decide +kernel)) rfl
theorem wi_X4_text : Cond.instanceMethod yX4_text ∈ tG := tG_in (List.mem_of_getElem? (i := 537) (by decide +kernel)) rfl
theorem wv_X4_text : Cond.selects RX4 yX4_text yX4_text ∈ tG := tG_in (List.mem_of_getElem? (i := 538) (by decide +kernel)) rfl
theorem wc_X4_text : Cond.code yX4_text cX4_text 2 (some .int) ∈ tG := tG_in (List.mem_of_getElem? (i := 539) (by decide +kernel)) rfl
theorem wi_X4_hold : Cond.instanceMethod yX4_hold ∈ tG := tG_in (List.mem_of_getElem? (i := 652) (by decide +kernel)) rfl
theorem wv_X4_hold : Cond.selects RX4 yX4_hold yX4_hold ∈ tG := tG_in (List.mem_of_getElem? (i := 653) (by decide +kernel)) rfl
theorem wc_X4_hold : Cond.code yX4_hold cX4_hold 3 (some .int) ∈ tG := tG_in (List.mem_of_getElem? (i := 654) (by decide +kernel)) rfl
theorem wi_X4_as : Cond.instanceMethod yX4_as ∈ tG := tG_in (List.mem_of_getElem? (i := 659) (by decide +kernel)) rfl
theorem wv_X4_as : Cond.selects RX4 yX4_as yX4_as ∈ tG := tG_in (List.mem_of_getElem? (i := 660) (by decide +kernel)) rfl
theorem wc_X4_as : Cond.code yX4_as cX4_as 4 (some .int) ∈ tG := tG_in (List.mem_of_getElem? (i := 661) (by decide +kernel)) rfl
theorem wi_X4_sheet : Cond.instanceMethod yX4_sheet ∈ tG := tG_in (List.mem_of_getElem? (i := 668) (by decide +kernel)) rfl
theorem wv_X4_sheet : Cond.selects RX4 yX4_sheet yX4_sheet ∈ tG := tG_in (List.mem_of_getElem? (i := 669) (by decide +kernel)) rfl
theorem wc_X4_sheet : Cond.code yX4_sheet cX4_sheet 4 (some .int) ∈ tG := tG_in (List.mem_of_getElem? (i := 670) (by decide +kernel)) rfl
theorem wi_X4_write : Cond.instanceMethod yX4_write ∈ tG := tG_in (List.mem_of_getElem? (i := 680) (by decide +kernel)) rfl
theorem wv_X4_write : Cond.selects RX4 yX4_write yX4_write ∈ tG := tG_in (List.mem_of_getElem? (i := 681) (by decide +kernel)) rfl
theorem wc_X4_write : Cond.code yX4_write cX4_write 5 (some .int) ∈ tG := tG_in (List.mem_of_getElem? (i := 682) (by decide +kernel)) rfl
theorem wi_X4_copy : Cond.instanceMethod yX4_copy ∈ tG := tG_in (List.mem_of_getElem? (i := 688) (by decide +kernel)) rfl
theorem wv_X4_copy : Cond.selects RX4 yX4_copy yX4_copy ∈ tG := tG_in (List.mem_of_getElem? (i := 689) (by decide +kernel)) rfl
theorem wc_X4_copy : Cond.code yX4_copy cX4_copy 6 (some .int) ∈ tG := tG_in (List.mem_of_getElem? (i := 690) (by decide +kernel)) rfl
theorem wi_X4_load : Cond.instanceMethod yX4_load ∈ tG := tG_in (List.mem_of_getElem? (i := 697) (by decide +kernel)) rfl
theorem wv_X4_load : Cond.selects RX4 yX4_load yX4_load ∈ tG := tG_in (List.mem_of_getElem? (i := 698) (by decide +kernel)) rfl
theorem wc_X4_load : Cond.code yX4_load cX4_load 5 (some .int) ∈ tG := tG_in (List.mem_of_getElem? (i := 699) (by decide +kernel)) rfl
theorem wi_X4_judge : Cond.instanceMethod yX4_judge ∈ tG := tG_in (List.mem_of_getElem? (i := 702) (by decide +kernel)) rfl
theorem wv_X4_judge : Cond.selects RX4 yX4_judge yX4_judge ∈ tG := tG_in (List.mem_of_getElem? (i := 703) (by decide +kernel)) rfl
theorem wc_X4_judge : Cond.code yX4_judge cX4_judge 4 (some .int) ∈ tG := tG_in (List.mem_of_getElem? (i := 704) (by decide +kernel)) rfl
theorem wi_X4_image : Cond.instanceMethod yX4_image ∈ tG := tG_in (List.mem_of_getElem? (i := 706) (by decide +kernel)) rfl
theorem wv_X4_image : Cond.selects RX4 yX4_image yX4_image ∈ tG := tG_in (List.mem_of_getElem? (i := 707) (by decide +kernel)) rfl
theorem wc_X4_image : Cond.code yX4_image cX4_image 1 (some .int) ∈ tG := tG_in (List.mem_of_getElem? (i := 708) (by decide +kernel)) rfl
theorem wi_X4_undo : Cond.instanceMethod yX4_undo ∈ tG := tG_in (List.mem_of_getElem? (i := 710) (by decide +kernel)) rfl
theorem wv_X4_undo : Cond.selects RX4 yX4_undo yX4_undo ∈ tG := tG_in (List.mem_of_getElem? (i := 711) (by decide +kernel)) rfl
theorem wc_X4_undo : Cond.code yX4_undo cX4_undo 1 (some .int) ∈ tG := tG_in (List.mem_of_getElem? (i := 712) (by decide +kernel)) rfl
theorem wi_X4_tear : Cond.instanceMethod yX4_tear ∈ tG := tG_in (List.mem_of_getElem? (i := 714) (by decide +kernel)) rfl
theorem wv_X4_tear : Cond.selects RX4 yX4_tear yX4_tear ∈ tG := tG_in (List.mem_of_getElem? (i := 715) (by decide +kernel)) rfl
theorem wc_X4_tear : Cond.code yX4_tear cX4_tear 2 (some .int) ∈ tG := tG_in (List.mem_of_getElem? (i := 716) (by decide +kernel)) rfl
theorem wi_X4_count : Cond.instanceMethod yX4_count ∈ tG := tG_in (List.mem_of_getElem? (i := 718) (by decide +kernel)) rfl
theorem wv_X4_count : Cond.selects RX4 yX4_count yX4_count ∈ tG := tG_in (List.mem_of_getElem? (i := 719) (by decide +kernel)) rfl
theorem wc_X4_count : Cond.code yX4_count cX4_count 2 (some .int) ∈ tG := tG_in (List.mem_of_getElem? (i := 720) (by decide +kernel)) rfl
theorem wi_X4_status : Cond.instanceMethod yX4_status ∈ tG := tG_in (List.mem_of_getElem? (i := 730) (by decide +kernel)) rfl
theorem wv_X4_status : Cond.selects RX4 yX4_status yX4_status ∈ tG := tG_in (List.mem_of_getElem? (i := 731) (by decide +kernel)) rfl
theorem wc_X4_status : Cond.code yX4_status cX4_status 4 (some .int) ∈ tG := tG_in (List.mem_of_getElem? (i := 732) (by decide +kernel)) rfl
theorem wi_X4_found : Cond.instanceMethod yX4_found ∈ tG := tG_in (List.mem_of_getElem? (i := 236) (by decide +kernel)) rfl
theorem wv_X4_found : Cond.selects RX4 yX4_found yX4_found ∈ tG := tG_in (List.mem_of_getElem? (i := 0) (by decide +kernel)) rfl
theorem wc_X4_found : Cond.code yX4_found cX4_found 2 (some .int) ∈ tG := tG_in (List.mem_of_getElem? (i := 237) (by decide +kernel)) rfl
theorem ws_X4_within : Cond.static yX4_within ∈ tG := tG_in (List.mem_of_getElem? (i := 230) (by decide +kernel)) rfl
theorem wc_X4_within : Cond.code yX4_within cX4_within 3 (some .boolean) ∈ tG := tG_in (List.mem_of_getElem? (i := 231) (by decide +kernel)) rfl
theorem ws_X4_isCell : Cond.static yX4_isCell ∈ tG := tG_in (List.mem_of_getElem? (i := 244) (by decide +kernel)) rfl
theorem wc_X4_isCell : Cond.code yX4_isCell cX4_isCell 1 (some .boolean) ∈ tG := tG_in (List.mem_of_getElem? (i := 245) (by decide +kernel)) rfl
theorem ws_X4_isListed : Cond.static yX4_isListed ∈ tG := tG_in (List.mem_of_getElem? (i := 251) (by decide +kernel)) rfl
theorem wc_X4_isListed : Cond.code yX4_isListed cX4_isListed 1 (some .boolean) ∈ tG := tG_in (List.mem_of_getElem? (i := 252) (by decide +kernel)) rfl
theorem ws_X4_isMeasure : Cond.static yX4_isMeasure ∈ tG := tG_in (List.mem_of_getElem? (i := 254) (by decide +kernel)) rfl
theorem wc_X4_isMeasure : Cond.code yX4_isMeasure cX4_isMeasure 1 (some .boolean) ∈ tG := tG_in (List.mem_of_getElem? (i := 255) (by decide +kernel)) rfl
theorem ws_X4_isKind : Cond.static yX4_isKind ∈ tG := tG_in (List.mem_of_getElem? (i := 276) (by decide +kernel)) rfl
theorem wc_X4_isKind : Cond.code yX4_isKind cX4_isKind 1 (some .boolean) ∈ tG := tG_in (List.mem_of_getElem? (i := 277) (by decide +kernel)) rfl
theorem ws_X4_isSpot : Cond.static yX4_isSpot ∈ tG := tG_in (List.mem_of_getElem? (i := 656) (by decide +kernel)) rfl
theorem wc_X4_isSpot : Cond.code yX4_isSpot cX4_isSpot 1 (some .boolean) ∈ tG := tG_in (List.mem_of_getElem? (i := 657) (by decide +kernel)) rfl
theorem wi_X4_isGuest : Cond.instanceMethod yX4_isGuest ∈ tG := tG_in (List.mem_of_getElem? (i := 293) (by decide +kernel)) rfl
theorem wv_X4_isGuest : Cond.selects RX4 yX4_isGuest yX4_isGuest ∈ tG := tG_in (List.mem_of_getElem? (i := 1) (by decide +kernel)) rfl
theorem wc_X4_isGuest : Cond.code yX4_isGuest cX4_isGuest 2 (some .boolean) ∈ tG := tG_in (List.mem_of_getElem? (i := 294) (by decide +kernel)) rfl
theorem wi_X4_startTrial : Cond.instanceMethod yX4_startTrial ∈ tG := tG_in (List.mem_of_getElem? (i := 397) (by decide +kernel)) rfl
theorem wv_X4_startTrial : Cond.selects RX4 yX4_startTrial yX4_startTrial ∈ tG := tG_in (List.mem_of_getElem? (i := 4) (by decide +kernel)) rfl
theorem wc_X4_startTrial : Cond.code yX4_startTrial cX4_startTrial 1 (none : Option Jvm.ClassFile.FieldType) ∈ tG := tG_in (List.mem_of_getElem? (i := 398) (by decide +kernel)) rfl
theorem wi_X4_lackOfSheet : Cond.instanceMethod yX4_lackOfSheet ∈ tG := tG_in (List.mem_of_getElem? (i := 472) (by decide +kernel)) rfl
theorem wv_X4_lackOfSheet : Cond.selects RX4 yX4_lackOfSheet yX4_lackOfSheet ∈ tG := tG_in (List.mem_of_getElem? (i := 6) (by decide +kernel)) rfl
theorem wc_X4_lackOfSheet : Cond.code yX4_lackOfSheet cX4_lackOfSheet 2 (some .int) ∈ tG := tG_in (List.mem_of_getElem? (i := 473) (by decide +kernel)) rfl
theorem wi_X4_lackOfTold : Cond.instanceMethod yX4_lackOfTold ∈ tG := tG_in (List.mem_of_getElem? (i := 468) (by decide +kernel)) rfl
theorem wv_X4_lackOfTold : Cond.selects RX4 yX4_lackOfTold yX4_lackOfTold ∈ tG := tG_in (List.mem_of_getElem? (i := 5) (by decide +kernel)) rfl
theorem wc_X4_lackOfTold : Cond.code yX4_lackOfTold cX4_lackOfTold 4 (some .int) ∈ tG := tG_in (List.mem_of_getElem? (i := 469) (by decide +kernel)) rfl
theorem wi_X4_trialGoesAsTold : Cond.instanceMethod yX4_trialGoesAsTold ∈ tG := tG_in (List.mem_of_getElem? (i := 484) (by decide +kernel)) rfl
theorem wv_X4_trialGoesAsTold : Cond.selects RX4 yX4_trialGoesAsTold yX4_trialGoesAsTold ∈ tG := tG_in (List.mem_of_getElem? (i := 7) (by decide +kernel)) rfl
theorem wc_X4_trialGoesAsTold : Cond.code yX4_trialGoesAsTold cX4_trialGoesAsTold 5 (some .boolean) ∈ tG := tG_in (List.mem_of_getElem? (i := 485) (by decide +kernel)) rfl
theorem ws_X4_commonDivisor : Cond.static yX4_commonDivisor ∈ tG := tG_in (List.mem_of_getElem? (i := 513) (by decide +kernel)) rfl
theorem wc_X4_commonDivisor : Cond.code yX4_commonDivisor cX4_commonDivisor 6 (some .int) ∈ tG := tG_in (List.mem_of_getElem? (i := 514) (by decide +kernel)) rfl
theorem wi_X5_init : Cond.instanceMethod yX5_init ∈ tG := tG_in (List.mem_of_getElem? (i := 736) (by decide +kernel)) rfl
theorem wc_X5_init : Cond.code yX5_init cX5_init 2 (none : Option Jvm.ClassFile.FieldType) ∈ tG := tG_in (List.mem_of_getElem? (i := 737) (by decide +kernel)) rfl
theorem wi_X5_finding : Cond.instanceMethod yX5_finding ∈ tG := tG_in (List.mem_of_getElem? (i := 826) (by decide +kernel)) rfl
theorem wv_X5_finding : Cond.selects RX5 yX5_finding yX5_finding ∈ tG := tG_in (List.mem_of_getElem? (i := 18) (by decide +kernel)) rfl
theorem wc_X5_finding : Cond.code yX5_finding cX5_finding 2 (some .int) ∈ tG := tG_in (List.mem_of_getElem? (i := 827) (by decide +kernel)) rfl
theorem ws_X5_within : Cond.static yX5_within ∈ tG := tG_in (List.mem_of_getElem? (i := 814) (by decide +kernel)) rfl
theorem wc_X5_within : Cond.code yX5_within cX5_within 3 (some .boolean) ∈ tG := tG_in (List.mem_of_getElem? (i := 815) (by decide +kernel)) rfl
theorem wi_X5_become : Cond.instanceMethod yX5_become ∈ tG := tG_in (List.mem_of_getElem? (i := 821) (by decide +kernel)) rfl
theorem wv_X5_become : Cond.selects RX5 yX5_become yX5_become ∈ tG := tG_in (List.mem_of_getElem? (i := 17) (by decide +kernel)) rfl
theorem wc_X5_become : Cond.code yX5_become cX5_become 4 (some .int) ∈ tG := tG_in (List.mem_of_getElem? (i := 822) (by decide +kernel)) rfl
theorem ws_X5_copyRow : Cond.static yX5_copyRow ∈ tG := tG_in (List.mem_of_getElem? (i := 983) (by decide +kernel)) rfl
theorem wc_X5_copyRow : Cond.code yX5_copyRow cX5_copyRow 3 (none : Option Jvm.ClassFile.FieldType) ∈ tG := tG_in (List.mem_of_getElem? (i := 984) (by decide +kernel)) rfl
theorem wi_X5_putBack : Cond.instanceMethod yX5_putBack ∈ tG := tG_in (List.mem_of_getElem? (i := 987) (by decide +kernel)) rfl
theorem wv_X5_putBack : Cond.selects RX5 yX5_putBack yX5_putBack ∈ tG := tG_in (List.mem_of_getElem? (i := 40) (by decide +kernel)) rfl
theorem wc_X5_putBack : Cond.code yX5_putBack cX5_putBack 2 (some .int) ∈ tG := tG_in (List.mem_of_getElem? (i := 988) (by decide +kernel)) rfl
theorem wi_X5_orNone : Cond.instanceMethod yX5_orNone ∈ tG := tG_in (List.mem_of_getElem? (i := 1007) (by decide +kernel)) rfl
theorem wv_X5_orNone : Cond.selects RX5 yX5_orNone yX5_orNone ∈ tG := tG_in (List.mem_of_getElem? (i := 43) (by decide +kernel)) rfl
theorem wc_X5_orNone : Cond.code yX5_orNone cX5_orNone 2 (some .int) ∈ tG := tG_in (List.mem_of_getElem? (i := 1008) (by decide +kernel)) rfl
theorem ws_X5_bits : Cond.static yX5_bits ∈ tG := tG_in (List.mem_of_getElem? (i := 1042) (by decide +kernel)) rfl
theorem wc_X5_bits : Cond.code yX5_bits cX5_bits 3 (some .int) ∈ tG := tG_in (List.mem_of_getElem? (i := 1043) (by decide +kernel)) rfl
theorem ws_X5_isCell : Cond.static yX5_isCell ∈ tG := tG_in (List.mem_of_getElem? (i := 833) (by decide +kernel)) rfl
theorem wc_X5_isCell : Cond.code yX5_isCell cX5_isCell 1 (some .boolean) ∈ tG := tG_in (List.mem_of_getElem? (i := 834) (by decide +kernel)) rfl
theorem ws_X5_isMeasure : Cond.static yX5_isMeasure ∈ tG := tG_in (List.mem_of_getElem? (i := 846) (by decide +kernel)) rfl
theorem wc_X5_isMeasure : Cond.code yX5_isMeasure cX5_isMeasure 1 (some .boolean) ∈ tG := tG_in (List.mem_of_getElem? (i := 847) (by decide +kernel)) rfl
theorem ws_X5_isOften : Cond.static yX5_isOften ∈ tG := tG_in (List.mem_of_getElem? (i := 817) (by decide +kernel)) rfl
theorem wc_X5_isOften : Cond.code yX5_isOften cX5_isOften 1 (some .boolean) ∈ tG := tG_in (List.mem_of_getElem? (i := 818) (by decide +kernel)) rfl
theorem ws_X5_isBase : Cond.static yX5_isBase ∈ tG := tG_in (List.mem_of_getElem? (i := 836) (by decide +kernel)) rfl
theorem wc_X5_isBase : Cond.code yX5_isBase cX5_isBase 1 (some .boolean) ∈ tG := tG_in (List.mem_of_getElem? (i := 837) (by decide +kernel)) rfl
theorem wi_X5_set : Cond.instanceMethod yX5_set ∈ tG := tG_in (List.mem_of_getElem? (i := 810) (by decide +kernel)) rfl
theorem wv_X5_set : Cond.selects RX5 yX5_set yX5_set ∈ tG := tG_in (List.mem_of_getElem? (i := 811) (by decide +kernel)) rfl
theorem wc_X5_set : Cond.code yX5_set cX5_set 4 (some .int) ∈ tG := tG_in (List.mem_of_getElem? (i := 812) (by decide +kernel)) rfl
theorem wi_X5_cell : Cond.instanceMethod yX5_cell ∈ tG := tG_in (List.mem_of_getElem? (i := 829) (by decide +kernel)) rfl
theorem wv_X5_cell : Cond.selects RX5 yX5_cell yX5_cell ∈ tG := tG_in (List.mem_of_getElem? (i := 830) (by decide +kernel)) rfl
theorem wc_X5_cell : Cond.code yX5_cell cX5_cell 3 (some .int) ∈ tG := tG_in (List.mem_of_getElem? (i := 831) (by decide +kernel)) rfl
theorem ws_X5_isPlace : Cond.static yX5_isPlace ∈ tG := tG_in (List.mem_of_getElem? (i := 843) (by decide +kernel)) rfl
theorem wc_X5_isPlace : Cond.code yX5_isPlace cX5_isPlace 1 (some .boolean) ∈ tG := tG_in (List.mem_of_getElem? (i := 844) (by decide +kernel)) rfl
theorem wi_X5_measure : Cond.instanceMethod yX5_measure ∈ tG := tG_in (List.mem_of_getElem? (i := 839) (by decide +kernel)) rfl
theorem wv_X5_measure : Cond.selects RX5 yX5_measure yX5_measure ∈ tG := tG_in (List.mem_of_getElem? (i := 840) (by decide +kernel)) rfl
theorem wc_X5_measure : Cond.code yX5_measure cX5_measure 3 (some .int) ∈ tG := tG_in (List.mem_of_getElem? (i := 841) (by decide +kernel)) rfl
theorem wi_X5_listed : Cond.instanceMethod yX5_listed ∈ tG := tG_in (List.mem_of_getElem? (i := 849) (by decide +kernel)) rfl
theorem wv_X5_listed : Cond.selects RX5 yX5_listed yX5_listed ∈ tG := tG_in (List.mem_of_getElem? (i := 850) (by decide +kernel)) rfl
theorem wc_X5_listed : Cond.code yX5_listed cX5_listed 2 (some .int) ∈ tG := tG_in (List.mem_of_getElem? (i := 851) (by decide +kernel)) rfl
theorem wi_X5_placeNow : Cond.instanceMethod yX5_placeNow ∈ tG := tG_in (List.mem_of_getElem? (i := 943) (by decide +kernel)) rfl
theorem wv_X5_placeNow : Cond.selects RX5 yX5_placeNow yX5_placeNow ∈ tG := tG_in (List.mem_of_getElem? (i := 32) (by decide +kernel)) rfl
theorem wc_X5_placeNow : Cond.code yX5_placeNow cX5_placeNow 1 (some .int) ∈ tG := tG_in (List.mem_of_getElem? (i := 944) (by decide +kernel)) rfl
theorem wi_X5_measureNow : Cond.instanceMethod yX5_measureNow ∈ tG := tG_in (List.mem_of_getElem? (i := 939) (by decide +kernel)) rfl
theorem wv_X5_measureNow : Cond.selects RX5 yX5_measureNow yX5_measureNow ∈ tG := tG_in (List.mem_of_getElem? (i := 31) (by decide +kernel)) rfl
theorem wc_X5_measureNow : Cond.code yX5_measureNow cX5_measureNow 1 (some .int) ∈ tG := tG_in (List.mem_of_getElem? (i := 940) (by decide +kernel)) rfl
theorem wi_X5_wideAt : Cond.instanceMethod yX5_wideAt ∈ tG := tG_in (List.mem_of_getElem? (i := 858) (by decide +kernel)) rfl
theorem wv_X5_wideAt : Cond.selects RX5 yX5_wideAt yX5_wideAt ∈ tG := tG_in (List.mem_of_getElem? (i := 19) (by decide +kernel)) rfl
theorem wc_X5_wideAt : Cond.code yX5_wideAt cX5_wideAt 3 (some .int) ∈ tG := tG_in (List.mem_of_getElem? (i := 859) (by decide +kernel)) rfl
theorem wi_X5_wide : Cond.instanceMethod yX5_wide ∈ tG := tG_in (List.mem_of_getElem? (i := 853) (by decide +kernel)) rfl
theorem wv_X5_wide : Cond.selects RX5 yX5_wide yX5_wide ∈ tG := tG_in (List.mem_of_getElem? (i := 854) (by decide +kernel)) rfl
theorem wc_X5_wide : Cond.code yX5_wide cX5_wide 3 (some .int) ∈ tG := tG_in (List.mem_of_getElem? (i := 855) (by decide +kernel)) rfl
theorem ws_X5_guestAt : Cond.static yX5_guestAt ∈ tG := tG_in (List.mem_of_getElem? (i := 874) (by decide +kernel)) rfl
theorem wc_X5_guestAt : Cond.code yX5_guestAt cX5_guestAt 2 (some .int) ∈ tG := tG_in (List.mem_of_getElem? (i := 875) (by decide +kernel)) rfl
theorem wi_X5_guestIs : Cond.instanceMethod yX5_guestIs ∈ tG := tG_in (List.mem_of_getElem? (i := 894) (by decide +kernel)) rfl
theorem wv_X5_guestIs : Cond.selects RX5 yX5_guestIs yX5_guestIs ∈ tG := tG_in (List.mem_of_getElem? (i := 24) (by decide +kernel)) rfl
theorem wc_X5_guestIs : Cond.code yX5_guestIs cX5_guestIs 3 (some .int) ∈ tG := tG_in (List.mem_of_getElem? (i := 895) (by decide +kernel)) rfl
theorem wi_X5_isGuest : Cond.instanceMethod yX5_isGuest ∈ tG := tG_in (List.mem_of_getElem? (i := 882) (by decide +kernel)) rfl
theorem wv_X5_isGuest : Cond.selects RX5 yX5_isGuest yX5_isGuest ∈ tG := tG_in (List.mem_of_getElem? (i := 21) (by decide +kernel)) rfl
theorem wc_X5_isGuest : Cond.code yX5_isGuest cX5_isGuest 2 (some .boolean) ∈ tG := tG_in (List.mem_of_getElem? (i := 883) (by decide +kernel)) rfl
theorem ws_X5_isKind : Cond.static yX5_isKind ∈ tG := tG_in (List.mem_of_getElem? (i := 866) (by decide +kernel)) rfl
theorem wc_X5_isKind : Cond.code yX5_isKind cX5_isKind 1 (some .boolean) ∈ tG := tG_in (List.mem_of_getElem? (i := 867) (by decide +kernel)) rfl
theorem wi_X5_comesIn : Cond.instanceMethod yX5_comesIn ∈ tG := tG_in (List.mem_of_getElem? (i := 871) (by decide +kernel)) rfl
theorem wv_X5_comesIn : Cond.selects RX5 yX5_comesIn yX5_comesIn ∈ tG := tG_in (List.mem_of_getElem? (i := 20) (by decide +kernel)) rfl
theorem wc_X5_comesIn : Cond.code yX5_comesIn cX5_comesIn 4 (some .int) ∈ tG := tG_in (List.mem_of_getElem? (i := 872) (by decide +kernel)) rfl
theorem wi_X5_guest : Cond.instanceMethod yX5_guest ∈ tG := tG_in (List.mem_of_getElem? (i := 862) (by decide +kernel)) rfl
theorem wv_X5_guest : Cond.selects RX5 yX5_guest yX5_guest ∈ tG := tG_in (List.mem_of_getElem? (i := 863) (by decide +kernel)) rfl
theorem wc_X5_guest : Cond.code yX5_guest cX5_guest 3 (some .int) ∈ tG := tG_in (List.mem_of_getElem? (i := 864) (by decide +kernel)) rfl
theorem wi_X5_needs : Cond.instanceMethod yX5_needs ∈ tG := tG_in (List.mem_of_getElem? (i := 890) (by decide +kernel)) rfl
theorem wv_X5_needs : Cond.selects RX5 yX5_needs yX5_needs ∈ tG := tG_in (List.mem_of_getElem? (i := 23) (by decide +kernel)) rfl
theorem wc_X5_needs : Cond.code yX5_needs cX5_needs 4 (some .int) ∈ tG := tG_in (List.mem_of_getElem? (i := 891) (by decide +kernel)) rfl
theorem wi_X5_steps : Cond.instanceMethod yX5_steps ∈ tG := tG_in (List.mem_of_getElem? (i := 898) (by decide +kernel)) rfl
theorem wv_X5_steps : Cond.selects RX5 yX5_steps yX5_steps ∈ tG := tG_in (List.mem_of_getElem? (i := 25) (by decide +kernel)) rfl
theorem wc_X5_steps : Cond.code yX5_steps cX5_steps 2 (some .int) ∈ tG := tG_in (List.mem_of_getElem? (i := 899) (by decide +kernel)) rfl
theorem wi_X5_laughs : Cond.instanceMethod yX5_laughs ∈ tG := tG_in (List.mem_of_getElem? (i := 902) (by decide +kernel)) rfl
theorem wv_X5_laughs : Cond.selects RX5 yX5_laughs yX5_laughs ∈ tG := tG_in (List.mem_of_getElem? (i := 26) (by decide +kernel)) rfl
theorem wc_X5_laughs : Cond.code yX5_laughs cX5_laughs 2 (some .int) ∈ tG := tG_in (List.mem_of_getElem? (i := 903) (by decide +kernel)) rfl
theorem wi_X5_laces : Cond.instanceMethod yX5_laces ∈ tG := tG_in (List.mem_of_getElem? (i := 906) (by decide +kernel)) rfl
theorem wv_X5_laces : Cond.selects RX5 yX5_laces yX5_laces ∈ tG := tG_in (List.mem_of_getElem? (i := 27) (by decide +kernel)) rfl
theorem wc_X5_laces : Cond.code yX5_laces cX5_laces 3 (some .int) ∈ tG := tG_in (List.mem_of_getElem? (i := 907) (by decide +kernel)) rfl
theorem wi_X5_told : Cond.instanceMethod yX5_told ∈ tG := tG_in (List.mem_of_getElem? (i := 886) (by decide +kernel)) rfl
theorem wv_X5_told : Cond.selects RX5 yX5_told yX5_told ∈ tG := tG_in (List.mem_of_getElem? (i := 22) (by decide +kernel)) rfl
theorem wc_X5_told : Cond.code yX5_told cX5_told 3 (some .int) ∈ tG := tG_in (List.mem_of_getElem? (i := 887) (by decide +kernel)) rfl
theorem wi_X5_of : Cond.instanceMethod yX5_of ∈ tG := tG_in (List.mem_of_getElem? (i := 877) (by decide +kernel)) rfl
theorem wv_X5_of : Cond.selects RX5 yX5_of yX5_of ∈ tG := tG_in (List.mem_of_getElem? (i := 878) (by decide +kernel)) rfl
theorem wc_X5_of : Cond.code yX5_of cX5_of 3 (some .int) ∈ tG := tG_in (List.mem_of_getElem? (i := 879) (by decide +kernel)) rfl
theorem ws_X5_isField : Cond.static yX5_isField ∈ tG := tG_in (List.mem_of_getElem? (i := 913) (by decide +kernel)) rfl
theorem wc_X5_isField : Cond.code yX5_isField cX5_isField 2 (some .boolean) ∈ tG := tG_in (List.mem_of_getElem? (i := 914) (by decide +kernel)) rfl
theorem wi_X5_change : Cond.instanceMethod yX5_change ∈ tG := tG_in (List.mem_of_getElem? (i := 909) (by decide +kernel)) rfl
theorem wv_X5_change : Cond.selects RX5 yX5_change yX5_change ∈ tG := tG_in (List.mem_of_getElem? (i := 910) (by decide +kernel)) rfl
theorem wc_X5_change : Cond.code yX5_change cX5_change 4 (some .int) ∈ tG := tG_in (List.mem_of_getElem? (i := 911) (by decide +kernel)) rfl
theorem wi_X5_reachOf : Cond.instanceMethod yX5_reachOf ∈ tG := tG_in (List.mem_of_getElem? (i := 921) (by decide +kernel)) rfl
theorem wv_X5_reachOf : Cond.selects RX5 yX5_reachOf yX5_reachOf ∈ tG := tG_in (List.mem_of_getElem? (i := 28) (by decide +kernel)) rfl
theorem wc_X5_reachOf : Cond.code yX5_reachOf cX5_reachOf 7 (some .int) ∈ tG := tG_in (List.mem_of_getElem? (i := 922) (by decide +kernel)) rfl
theorem wi_X5_reach : Cond.instanceMethod yX5_reach ∈ tG := tG_in (List.mem_of_getElem? (i := 916) (by decide +kernel)) rfl
theorem wv_X5_reach : Cond.selects RX5 yX5_reach yX5_reach ∈ tG := tG_in (List.mem_of_getElem? (i := 917) (by decide +kernel)) rfl
theorem wc_X5_reach : Cond.code yX5_reach cX5_reach 3 (some .int) ∈ tG := tG_in (List.mem_of_getElem? (i := 918) (by decide +kernel)) rfl
theorem wi_X5_goes : Cond.instanceMethod yX5_goes ∈ tG := tG_in (List.mem_of_getElem? (i := 951) (by decide +kernel)) rfl
theorem wv_X5_goes : Cond.selects RX5 yX5_goes yX5_goes ∈ tG := tG_in (List.mem_of_getElem? (i := 34) (by decide +kernel)) rfl
theorem wc_X5_goes : Cond.code yX5_goes cX5_goes 8 (none : Option Jvm.ClassFile.FieldType) ∈ tG := tG_in (List.mem_of_getElem? (i := 952) (by decide +kernel)) rfl
theorem wi_X5_isIn : Cond.instanceMethod yX5_isIn ∈ tG := tG_in (List.mem_of_getElem? (i := 947) (by decide +kernel)) rfl
theorem wv_X5_isIn : Cond.selects RX5 yX5_isIn yX5_isIn ∈ tG := tG_in (List.mem_of_getElem? (i := 33) (by decide +kernel)) rfl
theorem wc_X5_isIn : Cond.code yX5_isIn cX5_isIn 2 (some .boolean) ∈ tG := tG_in (List.mem_of_getElem? (i := 948) (by decide +kernel)) rfl
theorem wi_X5_strains : Cond.instanceMethod yX5_strains ∈ tG := tG_in (List.mem_of_getElem? (i := 956) (by decide +kernel)) rfl
theorem wv_X5_strains : Cond.selects RX5 yX5_strains yX5_strains ∈ tG := tG_in (List.mem_of_getElem? (i := 35) (by decide +kernel)) rfl
theorem wc_X5_strains : Cond.code yX5_strains cX5_strains 4 (none : Option Jvm.ClassFile.FieldType) ∈ tG := tG_in (List.mem_of_getElem? (i := 957) (by decide +kernel)) rfl
theorem wi_X5_hour : Cond.instanceMethod yX5_hour ∈ tG := tG_in (List.mem_of_getElem? (i := 935) (by decide +kernel)) rfl
theorem wv_X5_hour : Cond.selects RX5 yX5_hour yX5_hour ∈ tG := tG_in (List.mem_of_getElem? (i := 30) (by decide +kernel)) rfl
theorem wc_X5_hour : Cond.code yX5_hour cX5_hour 3 (none : Option Jvm.ClassFile.FieldType) ∈ tG := tG_in (List.mem_of_getElem? (i := 936) (by decide +kernel)) rfl
theorem wi_X5_hoursGo : Cond.instanceMethod yX5_hoursGo ∈ tG := tG_in (List.mem_of_getElem? (i := 931) (by decide +kernel)) rfl
theorem wv_X5_hoursGo : Cond.selects RX5 yX5_hoursGo yX5_hoursGo ∈ tG := tG_in (List.mem_of_getElem? (i := 29) (by decide +kernel)) rfl
theorem wc_X5_hoursGo : Cond.code yX5_hoursGo cX5_hoursGo 3 (none : Option Jvm.ClassFile.FieldType) ∈ tG := tG_in (List.mem_of_getElem? (i := 932) (by decide +kernel)) rfl
theorem wi_X5_go : Cond.instanceMethod yX5_go ∈ tG := tG_in (List.mem_of_getElem? (i := 924) (by decide +kernel)) rfl
theorem wv_X5_go : Cond.selects RX5 yX5_go yX5_go ∈ tG := tG_in (List.mem_of_getElem? (i := 925) (by decide +kernel)) rfl
theorem wc_X5_go : Cond.code yX5_go cX5_go 2 (some .int) ∈ tG := tG_in (List.mem_of_getElem? (i := 926) (by decide +kernel)) rfl
theorem wi_X5_stuckOnes : Cond.instanceMethod yX5_stuckOnes ∈ tG := tG_in (List.mem_of_getElem? (i := 964) (by decide +kernel)) rfl
theorem wv_X5_stuckOnes : Cond.selects RX5 yX5_stuckOnes yX5_stuckOnes ∈ tG := tG_in (List.mem_of_getElem? (i := 36) (by decide +kernel)) rfl
theorem wc_X5_stuckOnes : Cond.code yX5_stuckOnes cX5_stuckOnes 3 (some .int) ∈ tG := tG_in (List.mem_of_getElem? (i := 965) (by decide +kernel)) rfl
theorem wi_X5_arrived : Cond.instanceMethod yX5_arrived ∈ tG := tG_in (List.mem_of_getElem? (i := 968) (by decide +kernel)) rfl
theorem wv_X5_arrived : Cond.selects RX5 yX5_arrived yX5_arrived ∈ tG := tG_in (List.mem_of_getElem? (i := 37) (by decide +kernel)) rfl
theorem wc_X5_arrived : Cond.code yX5_arrived cX5_arrived 3 (some .int) ∈ tG := tG_in (List.mem_of_getElem? (i := 969) (by decide +kernel)) rfl
theorem wi_X5_inTheHall : Cond.instanceMethod yX5_inTheHall ∈ tG := tG_in (List.mem_of_getElem? (i := 972) (by decide +kernel)) rfl
theorem wv_X5_inTheHall : Cond.selects RX5 yX5_inTheHall yX5_inTheHall ∈ tG := tG_in (List.mem_of_getElem? (i := 38) (by decide +kernel)) rfl
theorem wc_X5_inTheHall : Cond.code yX5_inTheHall cX5_inTheHall 3 (some .int) ∈ tG := tG_in (List.mem_of_getElem? (i := 973) (by decide +kernel)) rfl
theorem wi_X5_shutCells : Cond.instanceMethod yX5_shutCells ∈ tG := tG_in (List.mem_of_getElem? (i := 976) (by decide +kernel)) rfl
theorem wv_X5_shutCells : Cond.selects RX5 yX5_shutCells yX5_shutCells ∈ tG := tG_in (List.mem_of_getElem? (i := 39) (by decide +kernel)) rfl
theorem wc_X5_shutCells : Cond.code yX5_shutCells cX5_shutCells 3 (some .int) ∈ tG := tG_in (List.mem_of_getElem? (i := 977) (by decide +kernel)) rfl
theorem wi_X5_now : Cond.instanceMethod yX5_now ∈ tG := tG_in (List.mem_of_getElem? (i := 959) (by decide +kernel)) rfl
theorem wv_X5_now : Cond.selects RX5 yX5_now yX5_now ∈ tG := tG_in (List.mem_of_getElem? (i := 960) (by decide +kernel)) rfl
theorem wc_X5_now : Cond.code yX5_now cX5_now 2 (some .int) ∈ tG := tG_in (List.mem_of_getElem? (i := 961) (by decide +kernel)) rfl
theorem wi_X5_behind : Cond.instanceMethod yX5_behind ∈ tG := tG_in (List.mem_of_getElem? (i := 995) (by decide +kernel)) rfl
theorem wv_X5_behind : Cond.selects RX5 yX5_behind yX5_behind ∈ tG := tG_in (List.mem_of_getElem? (i := 41) (by decide +kernel)) rfl
theorem wc_X5_behind : Cond.code yX5_behind cX5_behind 3 (some .int) ∈ tG := tG_in (List.mem_of_getElem? (i := 996) (by decide +kernel)) rfl
theorem wi_X5_ahead : Cond.instanceMethod yX5_ahead ∈ tG := tG_in (List.mem_of_getElem? (i := 979) (by decide +kernel)) rfl
theorem wv_X5_ahead : Cond.selects RX5 yX5_ahead yX5_ahead ∈ tG := tG_in (List.mem_of_getElem? (i := 980) (by decide +kernel)) rfl
theorem wc_X5_ahead : Cond.code yX5_ahead cX5_ahead 5 (some .int) ∈ tG := tG_in (List.mem_of_getElem? (i := 981) (by decide +kernel)) rfl
theorem wi_X5_strain : Cond.instanceMethod yX5_strain ∈ tG := tG_in (List.mem_of_getElem? (i := 990) (by decide +kernel)) rfl
theorem wv_X5_strain : Cond.selects RX5 yX5_strain yX5_strain ∈ tG := tG_in (List.mem_of_getElem? (i := 991) (by decide +kernel)) rfl
theorem wc_X5_strain : Cond.code yX5_strain cX5_strain 2 (some .int) ∈ tG := tG_in (List.mem_of_getElem? (i := 992) (by decide +kernel)) rfl
theorem wi_X5_hoursTo : Cond.instanceMethod yX5_hoursTo ∈ tG := tG_in (List.mem_of_getElem? (i := 1003) (by decide +kernel)) rfl
theorem wv_X5_hoursTo : Cond.selects RX5 yX5_hoursTo yX5_hoursTo ∈ tG := tG_in (List.mem_of_getElem? (i := 42) (by decide +kernel)) rfl
theorem wc_X5_hoursTo : Cond.code yX5_hoursTo cX5_hoursTo 5 (some .int) ∈ tG := tG_in (List.mem_of_getElem? (i := 1004) (by decide +kernel)) rfl
theorem wi_X5_snaps : Cond.instanceMethod yX5_snaps ∈ tG := tG_in (List.mem_of_getElem? (i := 998) (by decide +kernel)) rfl
theorem wv_X5_snaps : Cond.selects RX5 yX5_snaps yX5_snaps ∈ tG := tG_in (List.mem_of_getElem? (i := 999) (by decide +kernel)) rfl
theorem wc_X5_snaps : Cond.code yX5_snaps cX5_snaps 1 (some .int) ∈ tG := tG_in (List.mem_of_getElem? (i := 1000) (by decide +kernel)) rfl
theorem wi_X5_comes : Cond.instanceMethod yX5_comes ∈ tG := tG_in (List.mem_of_getElem? (i := 1011) (by decide +kernel)) rfl
theorem wv_X5_comes : Cond.selects RX5 yX5_comes yX5_comes ∈ tG := tG_in (List.mem_of_getElem? (i := 1012) (by decide +kernel)) rfl
theorem wc_X5_comes : Cond.code yX5_comes cX5_comes 3 (some .int) ∈ tG := tG_in (List.mem_of_getElem? (i := 1013) (by decide +kernel)) rfl
theorem wi_X5_stuck : Cond.instanceMethod yX5_stuck ∈ tG := tG_in (List.mem_of_getElem? (i := 1015) (by decide +kernel)) rfl
theorem wv_X5_stuck : Cond.selects RX5 yX5_stuck yX5_stuck ∈ tG := tG_in (List.mem_of_getElem? (i := 1016) (by decide +kernel)) rfl
theorem wc_X5_stuck : Cond.code yX5_stuck cX5_stuck 3 (some .int) ∈ tG := tG_in (List.mem_of_getElem? (i := 1017) (by decide +kernel)) rfl
theorem ws_X5_isThought : Cond.static yX5_isThought ∈ tG := tG_in (List.mem_of_getElem? (i := 1023) (by decide +kernel)) rfl
theorem wc_X5_isThought : Cond.code yX5_isThought cX5_isThought 1 (some .boolean) ∈ tG := tG_in (List.mem_of_getElem? (i := 1024) (by decide +kernel)) rfl
theorem wi_X5_tight : Cond.instanceMethod yX5_tight ∈ tG := tG_in (List.mem_of_getElem? (i := 1019) (by decide +kernel)) rfl
theorem wv_X5_tight : Cond.selects RX5 yX5_tight yX5_tight ∈ tG := tG_in (List.mem_of_getElem? (i := 1020) (by decide +kernel)) rfl
theorem wc_X5_tight : Cond.code yX5_tight cX5_tight 6 (some .int) ∈ tG := tG_in (List.mem_of_getElem? (i := 1021) (by decide +kernel)) rfl
theorem wi_X5_measureFor : Cond.instanceMethod yX5_measureFor ∈ tG := tG_in (List.mem_of_getElem? (i := 1026) (by decide +kernel)) rfl
theorem wv_X5_measureFor : Cond.selects RX5 yX5_measureFor yX5_measureFor ∈ tG := tG_in (List.mem_of_getElem? (i := 1027) (by decide +kernel)) rfl
theorem wc_X5_measureFor : Cond.code yX5_measureFor cX5_measureFor 5 (some .int) ∈ tG := tG_in (List.mem_of_getElem? (i := 1028) (by decide +kernel)) rfl
theorem wi_X5_kindFor : Cond.instanceMethod yX5_kindFor ∈ tG := tG_in (List.mem_of_getElem? (i := 1030) (by decide +kernel)) rfl
theorem wv_X5_kindFor : Cond.selects RX5 yX5_kindFor yX5_kindFor ∈ tG := tG_in (List.mem_of_getElem? (i := 1031) (by decide +kernel)) rfl
theorem wc_X5_kindFor : Cond.code yX5_kindFor cX5_kindFor 9 (some .int) ∈ tG := tG_in (List.mem_of_getElem? (i := 1032) (by decide +kernel)) rfl
theorem wi_X5_sizeFor : Cond.instanceMethod yX5_sizeFor ∈ tG := tG_in (List.mem_of_getElem? (i := 1034) (by decide +kernel)) rfl
theorem wv_X5_sizeFor : Cond.selects RX5 yX5_sizeFor yX5_sizeFor ∈ tG := tG_in (List.mem_of_getElem? (i := 1035) (by decide +kernel)) rfl
theorem wc_X5_sizeFor : Cond.code yX5_sizeFor cX5_sizeFor 7 (some .int) ∈ tG := tG_in (List.mem_of_getElem? (i := 1036) (by decide +kernel)) rfl
theorem wi_X5_holds : Cond.instanceMethod yX5_holds ∈ tG := tG_in (List.mem_of_getElem? (i := 1046) (by decide +kernel)) rfl
theorem wv_X5_holds : Cond.selects RX5 yX5_holds yX5_holds ∈ tG := tG_in (List.mem_of_getElem? (i := 44) (by decide +kernel)) rfl
theorem wc_X5_holds : Cond.code yX5_holds cX5_holds 4 (some .boolean) ∈ tG := tG_in (List.mem_of_getElem? (i := 1047) (by decide +kernel)) rfl
theorem wi_X5_send : Cond.instanceMethod yX5_send ∈ tG := tG_in (List.mem_of_getElem? (i := 1038) (by decide +kernel)) rfl
theorem wv_X5_send : Cond.selects RX5 yX5_send yX5_send ∈ tG := tG_in (List.mem_of_getElem? (i := 1039) (by decide +kernel)) rfl
theorem wc_X5_send : Cond.code yX5_send cX5_send 4 (some .int) ∈ tG := tG_in (List.mem_of_getElem? (i := 1040) (by decide +kernel)) rfl
theorem wi_X5_lacks : Cond.instanceMethod yX5_lacks ∈ tG := tG_in (List.mem_of_getElem? (i := 1054) (by decide +kernel)) rfl
theorem wv_X5_lacks : Cond.selects RX5 yX5_lacks yX5_lacks ∈ tG := tG_in (List.mem_of_getElem? (i := 45) (by decide +kernel)) rfl
theorem wc_X5_lacks : Cond.code yX5_lacks cX5_lacks 3 (some .int) ∈ tG := tG_in (List.mem_of_getElem? (i := 1055) (by decide +kernel)) rfl
theorem wi_X5_isSo : Cond.instanceMethod yX5_isSo ∈ tG := tG_in (List.mem_of_getElem? (i := 1062) (by decide +kernel)) rfl
theorem wv_X5_isSo : Cond.selects RX5 yX5_isSo yX5_isSo ∈ tG := tG_in (List.mem_of_getElem? (i := 46) (by decide +kernel)) rfl
theorem wc_X5_isSo : Cond.code yX5_isSo cX5_isSo 6 (some .boolean) ∈ tG := tG_in (List.mem_of_getElem? (i := 1063) (by decide +kernel)) rfl
theorem wi_X5_fits : Cond.instanceMethod yX5_fits ∈ tG := tG_in (List.mem_of_getElem? (i := 1049) (by decide +kernel)) rfl
theorem wv_X5_fits : Cond.selects RX5 yX5_fits yX5_fits ∈ tG := tG_in (List.mem_of_getElem? (i := 1050) (by decide +kernel)) rfl
theorem wc_X5_fits : Cond.code yX5_fits cX5_fits 8 (some .int) ∈ tG := tG_in (List.mem_of_getElem? (i := 1051) (by decide +kernel)) rfl
theorem wi_X5_kinds : Cond.instanceMethod yX5_kinds ∈ tG := tG_in (List.mem_of_getElem? (i := 1065) (by decide +kernel)) rfl
theorem wv_X5_kinds : Cond.selects RX5 yX5_kinds yX5_kinds ∈ tG := tG_in (List.mem_of_getElem? (i := 1066) (by decide +kernel)) rfl
theorem wc_X5_kinds : Cond.code yX5_kinds cX5_kinds 8 (some .int) ∈ tG := tG_in (List.mem_of_getElem? (i := 1067) (by decide +kernel)) rfl
theorem wi_X5_drawn : Cond.instanceMethod yX5_drawn ∈ tG := tG_in (List.mem_of_getElem? (i := 1074) (by decide +kernel)) rfl
theorem wv_X5_drawn : Cond.selects RX5 yX5_drawn yX5_drawn ∈ tG := tG_in (List.mem_of_getElem? (i := 47) (by decide +kernel)) rfl
theorem wc_X5_drawn : Cond.code yX5_drawn cX5_drawn 1 (some .int) ∈ tG := tG_in (List.mem_of_getElem? (i := 1075) (by decide +kernel)) rfl
theorem wi_X5_party : Cond.instanceMethod yX5_party ∈ tG := tG_in (List.mem_of_getElem? (i := 1069) (by decide +kernel)) rfl
theorem wv_X5_party : Cond.selects RX5 yX5_party yX5_party ∈ tG := tG_in (List.mem_of_getElem? (i := 1070) (by decide +kernel)) rfl
theorem wc_X5_party : Cond.code yX5_party cX5_party 5 (some .int) ∈ tG := tG_in (List.mem_of_getElem? (i := 1071) (by decide +kernel)) rfl
theorem wi_X5_odds : Cond.instanceMethod yX5_odds ∈ tG := tG_in (List.mem_of_getElem? (i := 1078) (by decide +kernel)) rfl
theorem wv_X5_odds : Cond.selects RX5 yX5_odds yX5_odds ∈ tG := tG_in (List.mem_of_getElem? (i := 1079) (by decide +kernel)) rfl
theorem wc_X5_odds : Cond.code yX5_odds cX5_odds 11 (some .long) ∈ tG := tG_in (List.mem_of_getElem? (i := 1080) (by decide +kernel)) rfl
theorem wi_X5_seed : Cond.instanceMethod yX5_seed ∈ tG := tG_in (List.mem_of_getElem? (i := 1082) (by decide +kernel)) rfl
theorem wv_X5_seed : Cond.selects RX5 yX5_seed yX5_seed ∈ tG := tG_in (List.mem_of_getElem? (i := 1083) (by decide +kernel)) rfl
theorem wc_X5_seed : Cond.code yX5_seed cX5_seed 2 (some .int) ∈ tG := tG_in (List.mem_of_getElem? (i := 1084) (by decide +kernel)) rfl
theorem wi_X5_feed : Cond.instanceMethod yX5_feed ∈ tG := tG_in (List.mem_of_getElem? (i := 1086) (by decide +kernel)) rfl
theorem wv_X5_feed : Cond.selects RX5 yX5_feed yX5_feed ∈ tG := tG_in (List.mem_of_getElem? (i := 1087) (by decide +kernel)) rfl
theorem wc_X5_feed : Cond.code yX5_feed cX5_feed 4 (some .int) ∈ tG := tG_in (List.mem_of_getElem? (i := 1088) (by decide +kernel)) rfl
theorem wi_X5_wipe : Cond.instanceMethod yX5_wipe ∈ tG := tG_in (List.mem_of_getElem? (i := 1090) (by decide +kernel)) rfl
theorem wv_X5_wipe : Cond.selects RX5 yX5_wipe yX5_wipe ∈ tG := tG_in (List.mem_of_getElem? (i := 1091) (by decide +kernel)) rfl
theorem wc_X5_wipe : Cond.code yX5_wipe cX5_wipe 2 (some .int) ∈ tG := tG_in (List.mem_of_getElem? (i := 1092) (by decide +kernel)) rfl
theorem wi_X5_byteAt : Cond.instanceMethod yX5_byteAt ∈ tG := tG_in (List.mem_of_getElem? (i := 1103) (by decide +kernel)) rfl
theorem wv_X5_byteAt : Cond.selects RX5 yX5_byteAt yX5_byteAt ∈ tG := tG_in (List.mem_of_getElem? (i := 49) (by decide +kernel)) rfl
theorem wc_X5_byteAt : Cond.code yX5_byteAt cX5_byteAt 2 (some .int) ∈ tG := tG_in (List.mem_of_getElem? (i := 1104) (by decide +kernel)) rfl
theorem wi_X5_token : Cond.instanceMethod yX5_token ∈ tG := tG_in (List.mem_of_getElem? (i := 1099) (by decide +kernel)) rfl
theorem wv_X5_token : Cond.selects RX5 yX5_token yX5_token ∈ tG := tG_in (List.mem_of_getElem? (i := 48) (by decide +kernel)) rfl
theorem wc_X5_token : Cond.code yX5_token cX5_token 2 (none : Option Jvm.ClassFile.FieldType) ∈ tG := tG_in (List.mem_of_getElem? (i := 1100) (by decide +kernel)) rfl
theorem wi_X5_isWord : Cond.instanceMethod yX5_isWord ∈ tG := tG_in (List.mem_of_getElem? (i := 1111) (by decide +kernel)) rfl
theorem wv_X5_isWord : Cond.selects RX5 yX5_isWord yX5_isWord ∈ tG := tG_in (List.mem_of_getElem? (i := 51) (by decide +kernel)) rfl
theorem wc_X5_isWord : Cond.code yX5_isWord cX5_isWord 4 (some .boolean) ∈ tG := tG_in (List.mem_of_getElem? (i := 1112) (by decide +kernel)) rfl
theorem wi_X5_must : Cond.instanceMethod yX5_must ∈ tG := tG_in (List.mem_of_getElem? (i := 1121) (by decide +kernel)) rfl
theorem wv_X5_must : Cond.selects RX5 yX5_must yX5_must ∈ tG := tG_in (List.mem_of_getElem? (i := 53) (by decide +kernel)) rfl
theorem wc_X5_must : Cond.code yX5_must cX5_must 2 (none : Option Jvm.ClassFile.FieldType) ∈ tG := tG_in (List.mem_of_getElem? (i := 1122) (by decide +kernel)) rfl
theorem wi_X5_number : Cond.instanceMethod yX5_number ∈ tG := tG_in (List.mem_of_getElem? (i := 1130) (by decide +kernel)) rfl
theorem wv_X5_number : Cond.selects RX5 yX5_number yX5_number ∈ tG := tG_in (List.mem_of_getElem? (i := 55) (by decide +kernel)) rfl
theorem wc_X5_number : Cond.code yX5_number cX5_number 4 (some .int) ∈ tG := tG_in (List.mem_of_getElem? (i := 1131) (by decide +kernel)) rfl
theorem wi_X5_addItem : Cond.instanceMethod yX5_addItem ∈ tG := tG_in (List.mem_of_getElem? (i := 1136) (by decide +kernel)) rfl
theorem wv_X5_addItem : Cond.selects RX5 yX5_addItem yX5_addItem ∈ tG := tG_in (List.mem_of_getElem? (i := 56) (by decide +kernel)) rfl
theorem wc_X5_addItem : Cond.code yX5_addItem cX5_addItem 6 (none : Option Jvm.ClassFile.FieldType) ∈ tG := tG_in (List.mem_of_getElem? (i := 1137) (by decide +kernel)) rfl
theorem wi_X5_takesWord : Cond.instanceMethod yX5_takesWord ∈ tG := tG_in (List.mem_of_getElem? (i := 1126) (by decide +kernel)) rfl
theorem wv_X5_takesWord : Cond.selects RX5 yX5_takesWord yX5_takesWord ∈ tG := tG_in (List.mem_of_getElem? (i := 54) (by decide +kernel)) rfl
theorem wc_X5_takesWord : Cond.code yX5_takesWord cX5_takesWord 3 (some .boolean) ∈ tG := tG_in (List.mem_of_getElem? (i := 1127) (by decide +kernel)) rfl
theorem wi_X5_readGuest : Cond.instanceMethod yX5_readGuest ∈ tG := tG_in (List.mem_of_getElem? (i := 1117) (by decide +kernel)) rfl
theorem wv_X5_readGuest : Cond.selects RX5 yX5_readGuest yX5_readGuest ∈ tG := tG_in (List.mem_of_getElem? (i := 52) (by decide +kernel)) rfl
theorem wc_X5_readGuest : Cond.code yX5_readGuest cX5_readGuest 4 (none : Option Jvm.ClassFile.FieldType) ∈ tG := tG_in (List.mem_of_getElem? (i := 1118) (by decide +kernel)) rfl
theorem wi_X5_readItem : Cond.instanceMethod yX5_readItem ∈ tG := tG_in (List.mem_of_getElem? (i := 1107) (by decide +kernel)) rfl
theorem wv_X5_readItem : Cond.selects RX5 yX5_readItem yX5_readItem ∈ tG := tG_in (List.mem_of_getElem? (i := 50) (by decide +kernel)) rfl
theorem wc_X5_readItem : Cond.code yX5_readItem cX5_readItem 3 (none : Option Jvm.ClassFile.FieldType) ∈ tG := tG_in (List.mem_of_getElem? (i := 1108) (by decide +kernel)) rfl
theorem wi_X5_isToldSo : Cond.instanceMethod yX5_isToldSo ∈ tG := tG_in (List.mem_of_getElem? (i := 1143) (by decide +kernel)) rfl
theorem wv_X5_isToldSo : Cond.selects RX5 yX5_isToldSo yX5_isToldSo ∈ tG := tG_in (List.mem_of_getElem? (i := 57) (by decide +kernel)) rfl
theorem wc_X5_isToldSo : Cond.code yX5_isToldSo cX5_isToldSo 5 (none : Option Jvm.ClassFile.FieldType) ∈ tG := tG_in (List.mem_of_getElem? (i := 1144) (by decide +kernel)) rfl
theorem wi_X5_text : Cond.instanceMethod yX5_text ∈ tG := tG_in (List.mem_of_getElem? (i := 1094) (by decide +kernel)) rfl
theorem wv_X5_text : Cond.selects RX5 yX5_text yX5_text ∈ tG := tG_in (List.mem_of_getElem? (i := 1095) (by decide +kernel)) rfl
theorem wc_X5_text : Cond.code yX5_text cX5_text 2 (some .int) ∈ tG := tG_in (List.mem_of_getElem? (i := 1096) (by decide +kernel)) rfl
theorem ws_X5_isSpot : Cond.static yX5_isSpot ∈ tG := tG_in (List.mem_of_getElem? (i := 1150) (by decide +kernel)) rfl
theorem wc_X5_isSpot : Cond.code yX5_isSpot cX5_isSpot 1 (some .boolean) ∈ tG := tG_in (List.mem_of_getElem? (i := 1151) (by decide +kernel)) rfl
theorem wi_X5_hold : Cond.instanceMethod yX5_hold ∈ tG := tG_in (List.mem_of_getElem? (i := 1146) (by decide +kernel)) rfl
theorem wv_X5_hold : Cond.selects RX5 yX5_hold yX5_hold ∈ tG := tG_in (List.mem_of_getElem? (i := 1147) (by decide +kernel)) rfl
theorem wc_X5_hold : Cond.code yX5_hold cX5_hold 3 (some .int) ∈ tG := tG_in (List.mem_of_getElem? (i := 1148) (by decide +kernel)) rfl
theorem wi_X5_as : Cond.instanceMethod yX5_as ∈ tG := tG_in (List.mem_of_getElem? (i := 1153) (by decide +kernel)) rfl
theorem wv_X5_as : Cond.selects RX5 yX5_as yX5_as ∈ tG := tG_in (List.mem_of_getElem? (i := 1154) (by decide +kernel)) rfl
theorem wc_X5_as : Cond.code yX5_as cX5_as 4 (some .int) ∈ tG := tG_in (List.mem_of_getElem? (i := 1155) (by decide +kernel)) rfl
theorem ws_X5_isSheet : Cond.static yX5_isSheet ∈ tG := tG_in (List.mem_of_getElem? (i := 1057) (by decide +kernel)) rfl
theorem wc_X5_isSheet : Cond.code yX5_isSheet cX5_isSheet 1 (some .boolean) ∈ tG := tG_in (List.mem_of_getElem? (i := 1058) (by decide +kernel)) rfl
theorem ws_X5_cutTo : Cond.static yX5_cutTo ∈ tG := tG_in (List.mem_of_getElem? (i := 1173) (by decide +kernel)) rfl
theorem wc_X5_cutTo : Cond.code yX5_cutTo cX5_cutTo 2 (some .int) ∈ tG := tG_in (List.mem_of_getElem? (i := 1174) (by decide +kernel)) rfl
theorem wi_X5_sheet : Cond.instanceMethod yX5_sheet ∈ tG := tG_in (List.mem_of_getElem? (i := 1164) (by decide +kernel)) rfl
theorem wv_X5_sheet : Cond.selects RX5 yX5_sheet yX5_sheet ∈ tG := tG_in (List.mem_of_getElem? (i := 1165) (by decide +kernel)) rfl
theorem wc_X5_sheet : Cond.code yX5_sheet cX5_sheet 5 (some .int) ∈ tG := tG_in (List.mem_of_getElem? (i := 1166) (by decide +kernel)) rfl
theorem wi_X5_write : Cond.instanceMethod yX5_write ∈ tG := tG_in (List.mem_of_getElem? (i := 1169) (by decide +kernel)) rfl
theorem wv_X5_write : Cond.selects RX5 yX5_write yX5_write ∈ tG := tG_in (List.mem_of_getElem? (i := 1170) (by decide +kernel)) rfl
theorem wc_X5_write : Cond.code yX5_write cX5_write 4 (some .int) ∈ tG := tG_in (List.mem_of_getElem? (i := 1171) (by decide +kernel)) rfl
theorem wi_X5_copy : Cond.instanceMethod yX5_copy ∈ tG := tG_in (List.mem_of_getElem? (i := 1176) (by decide +kernel)) rfl
theorem wv_X5_copy : Cond.selects RX5 yX5_copy yX5_copy ∈ tG := tG_in (List.mem_of_getElem? (i := 1177) (by decide +kernel)) rfl
theorem wc_X5_copy : Cond.code yX5_copy cX5_copy 7 (some .int) ∈ tG := tG_in (List.mem_of_getElem? (i := 1178) (by decide +kernel)) rfl
theorem ws_X5_above : Cond.static yX5_above ∈ tG := tG_in (List.mem_of_getElem? (i := 1160) (by decide +kernel)) rfl
theorem wc_X5_above : Cond.code yX5_above cX5_above 1 (some .int) ∈ tG := tG_in (List.mem_of_getElem? (i := 1161) (by decide +kernel)) rfl
theorem ws_X5_isUnder : Cond.static yX5_isUnder ∈ tG := tG_in (List.mem_of_getElem? (i := 1157) (by decide +kernel)) rfl
theorem wc_X5_isUnder : Cond.code yX5_isUnder cX5_isUnder 3 (some .boolean) ∈ tG := tG_in (List.mem_of_getElem? (i := 1158) (by decide +kernel)) rfl
theorem wi_X5_load : Cond.instanceMethod yX5_load ∈ tG := tG_in (List.mem_of_getElem? (i := 1180) (by decide +kernel)) rfl
theorem wv_X5_load : Cond.selects RX5 yX5_load yX5_load ∈ tG := tG_in (List.mem_of_getElem? (i := 1181) (by decide +kernel)) rfl
theorem wc_X5_load : Cond.code yX5_load cX5_load 3 (some .int) ∈ tG := tG_in (List.mem_of_getElem? (i := 1182) (by decide +kernel)) rfl
theorem wi_X5_judge : Cond.instanceMethod yX5_judge ∈ tG := tG_in (List.mem_of_getElem? (i := 1184) (by decide +kernel)) rfl
theorem wv_X5_judge : Cond.selects RX5 yX5_judge yX5_judge ∈ tG := tG_in (List.mem_of_getElem? (i := 1185) (by decide +kernel)) rfl
theorem wc_X5_judge : Cond.code yX5_judge cX5_judge 3 (some .int) ∈ tG := tG_in (List.mem_of_getElem? (i := 1186) (by decide +kernel)) rfl
theorem wi_X5_image : Cond.instanceMethod yX5_image ∈ tG := tG_in (List.mem_of_getElem? (i := 1188) (by decide +kernel)) rfl
theorem wv_X5_image : Cond.selects RX5 yX5_image yX5_image ∈ tG := tG_in (List.mem_of_getElem? (i := 1189) (by decide +kernel)) rfl
theorem wc_X5_image : Cond.code yX5_image cX5_image 1 (some .int) ∈ tG := tG_in (List.mem_of_getElem? (i := 1190) (by decide +kernel)) rfl
theorem wi_X5_undo : Cond.instanceMethod yX5_undo ∈ tG := tG_in (List.mem_of_getElem? (i := 1192) (by decide +kernel)) rfl
theorem wv_X5_undo : Cond.selects RX5 yX5_undo yX5_undo ∈ tG := tG_in (List.mem_of_getElem? (i := 1193) (by decide +kernel)) rfl
theorem wc_X5_undo : Cond.code yX5_undo cX5_undo 1 (some .int) ∈ tG := tG_in (List.mem_of_getElem? (i := 1194) (by decide +kernel)) rfl
theorem wi_X5_tear : Cond.instanceMethod yX5_tear ∈ tG := tG_in (List.mem_of_getElem? (i := 1196) (by decide +kernel)) rfl
theorem wv_X5_tear : Cond.selects RX5 yX5_tear yX5_tear ∈ tG := tG_in (List.mem_of_getElem? (i := 1197) (by decide +kernel)) rfl
theorem wc_X5_tear : Cond.code yX5_tear cX5_tear 2 (some .int) ∈ tG := tG_in (List.mem_of_getElem? (i := 1198) (by decide +kernel)) rfl
theorem wi_X5_count : Cond.instanceMethod yX5_count ∈ tG := tG_in (List.mem_of_getElem? (i := 1200) (by decide +kernel)) rfl
theorem wv_X5_count : Cond.selects RX5 yX5_count yX5_count ∈ tG := tG_in (List.mem_of_getElem? (i := 1201) (by decide +kernel)) rfl
theorem wc_X5_count : Cond.code yX5_count cX5_count 4 (some .int) ∈ tG := tG_in (List.mem_of_getElem? (i := 1202) (by decide +kernel)) rfl
theorem wi_X5_status : Cond.instanceMethod yX5_status ∈ tG := tG_in (List.mem_of_getElem? (i := 1204) (by decide +kernel)) rfl
theorem wv_X5_status : Cond.selects RX5 yX5_status yX5_status ∈ tG := tG_in (List.mem_of_getElem? (i := 1205) (by decide +kernel)) rfl
theorem wc_X5_status : Cond.code yX5_status cX5_status 2 (some .int) ∈ tG := tG_in (List.mem_of_getElem? (i := 1206) (by decide +kernel)) rfl
theorem ws_J6_bitCount_0f7a4 : Cond.static yJ6_bitCount_0f7a4 ∈ tG := tG_in (List.mem_of_getElem? (i := 453) (by decide +kernel)) rfl
theorem wc_J6_bitCount_0f7a4 : Cond.code yJ6_bitCount_0f7a4 cJ6_bitCount_0f7a4 1 (some .int) ∈ tG := tG_in (List.mem_of_getElem? (i := 454) (by decide +kernel)) rfl
theorem ws_J9_max_7cf53 : Cond.static yJ9_max_7cf53 ∈ tG := tG_in (List.mem_of_getElem? (i := 269) (by decide +kernel)) rfl
theorem wc_J9_max_7cf53 : Cond.code yJ9_max_7cf53 cJ9_max_7cf53 2 (some .int) ∈ tG := tG_in (List.mem_of_getElem? (i := 270) (by decide +kernel)) rfl
theorem ws_J9_min_7cf53 : Cond.static yJ9_min_7cf53 ∈ tG := tG_in (List.mem_of_getElem? (i := 361) (by decide +kernel)) rfl
theorem wc_J9_min_7cf53 : Cond.code yJ9_min_7cf53 cJ9_min_7cf53 2 (some .int) ∈ tG := tG_in (List.mem_of_getElem? (i := 362) (by decide +kernel)) rfl
theorem wi_J0_length_8abf5 : Cond.instanceMethod yJ0_length_8abf5 ∈ tG := tG_in (List.mem_of_getElem? (i := 578) (by decide +kernel)) rfl
theorem wv_J0_length_8abf5 : Cond.selects RJ0 yJ0_length_8abf5 yJ0_length_8abf5 ∈ tG := tG_in (List.mem_of_getElem? (i := 579) (by decide +kernel)) rfl
theorem wc_J0_length_8abf5 : Cond.code yJ0_length_8abf5 cJ0_length_8abf5 1 (some .int) ∈ tG := tG_in (List.mem_of_getElem? (i := 580) (by decide +kernel)) rfl
theorem wi_J0_charAt_5068e : Cond.instanceMethod yJ0_charAt_5068e ∈ tG := tG_in (List.mem_of_getElem? (i := 588) (by decide +kernel)) rfl
theorem wv_J0_charAt_5068e : Cond.selects RJ0 yJ0_charAt_5068e yJ0_charAt_5068e ∈ tG := tG_in (List.mem_of_getElem? (i := 589) (by decide +kernel)) rfl
theorem wc_J0_charAt_5068e : Cond.code yJ0_charAt_5068e cJ0_charAt_5068e 2 (some .char) ∈ tG := tG_in (List.mem_of_getElem? (i := 590) (by decide +kernel)) rfl
theorem wi_J0_coder_7d493 : Cond.instanceMethod yJ0_coder_7d493 ∈ tG := tG_in (List.mem_of_getElem? (i := 582) (by decide +kernel)) rfl
theorem wv_J0_coder_7d493 : Cond.selects RJ0 yJ0_coder_7d493 yJ0_coder_7d493 ∈ tG := tG_in (List.mem_of_getElem? (i := 583) (by decide +kernel)) rfl
theorem wc_J0_coder_7d493 : Cond.code yJ0_coder_7d493 cJ0_coder_7d493 1 (some .byte) ∈ tG := tG_in (List.mem_of_getElem? (i := 584) (by decide +kernel)) rfl
theorem wi_J0_isLatin1_aae02 : Cond.instanceMethod yJ0_isLatin1_aae02 ∈ tG := tG_in (List.mem_of_getElem? (i := 592) (by decide +kernel)) rfl
theorem wv_J0_isLatin1_aae02 : Cond.selects RJ0 yJ0_isLatin1_aae02 yJ0_isLatin1_aae02 ∈ tG := tG_in (List.mem_of_getElem? (i := 593) (by decide +kernel)) rfl
theorem wc_J0_isLatin1_aae02 : Cond.code yJ0_isLatin1_aae02 cJ0_isLatin1_aae02 1 (some .boolean) ∈ tG := tG_in (List.mem_of_getElem? (i := 594) (by decide +kernel)) rfl
theorem ws_J0_checkIndex_df160 : Cond.static yJ0_checkIndex_df160 ∈ tG := tG_in (List.mem_of_getElem? (i := 599) (by decide +kernel)) rfl
theorem wc_J0_checkIndex_df160 : Cond.code yJ0_checkIndex_df160 cJ0_checkIndex_df160 2 (none : Option Jvm.ClassFile.FieldType) ∈ tG := tG_in (List.mem_of_getElem? (i := 600) (by decide +kernel)) rfl
theorem ws_J1_charAt_3b067 : Cond.static yJ1_charAt_3b067 ∈ tG := tG_in (List.mem_of_getElem? (i := 596) (by decide +kernel)) rfl
theorem wc_J1_charAt_3b067 : Cond.code yJ1_charAt_3b067 cJ1_charAt_3b067 2 (some .char) ∈ tG := tG_in (List.mem_of_getElem? (i := 597) (by decide +kernel)) rfl
theorem ws_J7_fill_53178 : Cond.static yJ7_fill_53178 ∈ tG := tG_in (List.mem_of_getElem? (i := 88) (by decide +kernel)) rfl
theorem wc_J7_fill_53178 : Cond.code yJ7_fill_53178 cJ7_fill_53178 4 (none : Option Jvm.ClassFile.FieldType) ∈ tG := tG_in (List.mem_of_getElem? (i := 89) (by decide +kernel)) rfl
theorem ws_J3_checkIndex_8e157 : Cond.static yJ3_checkIndex_8e157 ∈ tG := tG_in (List.mem_of_getElem? (i := 604) (by decide +kernel)) rfl
theorem wc_J3_checkIndex_8e157 : Cond.code yJ3_checkIndex_8e157 cJ3_checkIndex_8e157 3 (some .int) ∈ tG := tG_in (List.mem_of_getElem? (i := 605) (by decide +kernel)) rfl
theorem wn_X2 : Cond.initialized RX2 ∈ tG := tG_in (List.mem_of_getElem? (i := 62) (by decide +kernel)) rfl
theorem wn_X1 : Cond.initialized RX1 ∈ tG := tG_in (List.mem_of_getElem? (i := 66) (by decide +kernel)) rfl
theorem wn_X5 : Cond.initialized RX5 ∈ tG := tG_in (List.mem_of_getElem? (i := 64) (by decide +kernel)) rfl
theorem wn_J9 : Cond.initialized RJ9 ∈ tG := tG_in (List.mem_of_getElem? (i := 65) (by decide +kernel)) rfl
theorem wn_X0 : Cond.initialized RX0 ∈ tG := tG_in (List.mem_of_getElem? (i := 60) (by decide +kernel)) rfl
theorem wn_J0 : Cond.initialized RJ0 ∈ tG := tG_in (List.mem_of_getElem? (i := 69) (by decide +kernel)) rfl
theorem wn_J7 : Cond.initialized RJ7 ∈ tG := tG_in (List.mem_of_getElem? (i := 61) (by decide +kernel)) rfl
theorem wn_X4 : Cond.initialized RX4 ∈ tG := tG_in (List.mem_of_getElem? (i := 59) (by decide +kernel)) rfl
theorem wn_J6 : Cond.initialized RJ6 ∈ tG := tG_in (List.mem_of_getElem? (i := 68) (by decide +kernel)) rfl
theorem wn_J1 : Cond.initialized RJ1 ∈ tG := tG_in (List.mem_of_getElem? (i := 70) (by decide +kernel)) rfl
theorem wn_J3 : Cond.initialized RJ3 ∈ tG := tG_in (List.mem_of_getElem? (i := 71) (by decide +kernel)) rfl
theorem wn_X3 : Cond.initialized RX3 ∈ tG := tG_in (List.mem_of_getElem? (i := 63) (by decide +kernel)) rfl
theorem gc_L_9 : g_I RL 9 yX4_init cX4_init 1 0 := ⟨tG_in (List.mem_of_getElem? (i := 75) (by decide +kernel)) rfl, wi_X4_init, wn_X4, wc_X4_init, by decide +kernel, by decide +kernel, rfl, by decide +kernel⟩
theorem gc_X4_9 : g_I RX4 9 yX0_init cX0_init 1 0 := ⟨tG_in (List.mem_of_getElem? (i := 83) (by decide +kernel)) rfl, wi_X0_init, wn_X0, wc_X0_init, by decide +kernel, by decide +kernel, rfl, by decide +kernel⟩
theorem gc_X0_56 : g_S RX0 56 yJ7_fill_53178 cJ7_fill_53178 4 (none : Option Jvm.ClassFile.FieldType) 2 := ⟨tG_in (List.mem_of_getElem? (i := 87) (by decide +kernel)) rfl, ws_J7_fill_53178, wn_J7, wc_J7_fill_53178, by decide +kernel, by decide +kernel, by decide +kernel⟩
theorem gc_L_13 : g_V RL 13 yX4_set cX4_set 4 (some .int) 2 := ⟨tG_in (List.mem_of_getElem? (i := 225) (by decide +kernel)) rfl, wi_X4_set, wv_X4_set, wn_X4, wc_X4_set, by decide +kernel, by decide +kernel, by decide +kernel⟩
theorem gc_X4_44 : g_S RX4 44 yX4_within cX4_within 3 (some .boolean) 3 := ⟨tG_in (List.mem_of_getElem? (i := 229) (by decide +kernel)) rfl, ws_X4_within, wn_X4, wc_X4_within, by decide +kernel, by decide +kernel, by decide +kernel⟩
theorem gc_X4_51 : g_V RX4 51 yX4_found cX4_found 2 (some .int) 1 := ⟨tG_in (List.mem_of_getElem? (i := 234) (by decide +kernel)) rfl, wi_X4_found, wv_X4_found, wn_X4, wc_X4_found, by decide +kernel, by decide +kernel, by decide +kernel⟩
theorem gc_L_18 : g_V RL 18 yX4_cell cX4_cell 4 (some .int) 2 := ⟨tG_in (List.mem_of_getElem? (i := 239) (by decide +kernel)) rfl, wi_X4_cell, wv_X4_cell, wn_X4, wc_X4_cell, by decide +kernel, by decide +kernel, by decide +kernel⟩
theorem gc_X4_65 : g_S RX4 65 yX4_isCell cX4_isCell 1 (some .boolean) 1 := ⟨tG_in (List.mem_of_getElem? (i := 243) (by decide +kernel)) rfl, ws_X4_isCell, wn_X4, wc_X4_isCell, by decide +kernel, by decide +kernel, by decide +kernel⟩
theorem gc_L_22 : g_V RL 22 yX4_measure cX4_measure 4 (some .int) 2 := ⟨tG_in (List.mem_of_getElem? (i := 246) (by decide +kernel)) rfl, wi_X4_measure, wv_X4_measure, wn_X4, wc_X4_measure, by decide +kernel, by decide +kernel, by decide +kernel⟩
theorem gc_X4_72 : g_S RX4 72 yX4_isListed cX4_isListed 1 (some .boolean) 1 := ⟨tG_in (List.mem_of_getElem? (i := 250) (by decide +kernel)) rfl, ws_X4_isListed, wn_X4, wc_X4_isListed, by decide +kernel, by decide +kernel, by decide +kernel⟩
theorem gc_X4_75 : g_S RX4 75 yX4_isMeasure cX4_isMeasure 1 (some .boolean) 1 := ⟨tG_in (List.mem_of_getElem? (i := 253) (by decide +kernel)) rfl, ws_X4_isMeasure, wn_X4, wc_X4_isMeasure, by decide +kernel, by decide +kernel, by decide +kernel⟩
theorem gc_L_26 : g_V RL 26 yX4_listed cX4_listed 2 (some .int) 1 := ⟨tG_in (List.mem_of_getElem? (i := 256) (by decide +kernel)) rfl, wi_X4_listed, wv_X4_listed, wn_X4, wc_X4_listed, by decide +kernel, by decide +kernel, by decide +kernel⟩
theorem gc_L_31 : g_V RL 31 yX4_wide cX4_wide 3 (some .int) 2 := ⟨tG_in (List.mem_of_getElem? (i := 260) (by decide +kernel)) rfl, wi_X4_wide, wv_X4_wide, wn_X4, wc_X4_wide, by decide +kernel, by decide +kernel, by decide +kernel⟩
theorem gc_X4_81 : g_V RX4 81 yX0_width cX0_width 3 (some .int) 2 := ⟨tG_in (List.mem_of_getElem? (i := 264) (by decide +kernel)) rfl, wi_X0_width, wv_X0_width, wn_X0, wc_X0_width, by decide +kernel, by decide +kernel, by decide +kernel⟩
theorem gc_X0_82 : g_S RX0 82 yJ9_max_7cf53 cJ9_max_7cf53 2 (some .int) 2 := ⟨tG_in (List.mem_of_getElem? (i := 268) (by decide +kernel)) rfl, ws_J9_max_7cf53, wn_J9, wc_J9_max_7cf53, by decide +kernel, by decide +kernel, by decide +kernel⟩
theorem gc_L_35 : g_V RL 35 yX4_guest cX4_guest 3 (some .int) 2 := ⟨tG_in (List.mem_of_getElem? (i := 271) (by decide +kernel)) rfl, wi_X4_guest, wv_X4_guest, wn_X4, wc_X4_guest, by decide +kernel, by decide +kernel, by decide +kernel⟩
theorem gc_X4_85 : g_S RX4 85 yX4_isKind cX4_isKind 1 (some .boolean) 1 := ⟨tG_in (List.mem_of_getElem? (i := 275) (by decide +kernel)) rfl, ws_X4_isKind, wn_X4, wc_X4_isKind, by decide +kernel, by decide +kernel, by decide +kernel⟩
theorem gc_X4_88 : g_V RX4 88 yX0_isFull cX0_isFull 1 (some .boolean) 0 := ⟨tG_in (List.mem_of_getElem? (i := 278) (by decide +kernel)) rfl, wi_X0_isFull, wv_X0_isFull, wn_X0, wc_X0_isFull, by decide +kernel, by decide +kernel, by decide +kernel⟩
theorem gc_X4_92 : g_V RX4 92 yX0_add cX0_add 3 (some .int) 2 := ⟨tG_in (List.mem_of_getElem? (i := 282) (by decide +kernel)) rfl, wi_X0_add, wv_X0_add, wn_X0, wc_X0_add, by decide +kernel, by decide +kernel, by decide +kernel⟩
theorem gc_X0_68 : g_V RX0 68 yX0_isFull cX0_isFull 1 (some .boolean) 0 := ⟨tG_in (List.mem_of_getElem? (i := 286) (by decide +kernel)) rfl, wi_X0_isFull, wv_X0_isFull, wn_X0, wc_X0_isFull, by decide +kernel, by decide +kernel, by decide +kernel⟩
theorem gc_L_39 : g_V RL 39 yX4_of cX4_of 3 (some .int) 2 := ⟨tG_in (List.mem_of_getElem? (i := 287) (by decide +kernel)) rfl, wi_X4_of, wv_X4_of, wn_X4, wc_X4_of, by decide +kernel, by decide +kernel, by decide +kernel⟩
theorem gc_X4_95 : g_V RX4 95 yX4_isGuest cX4_isGuest 2 (some .boolean) 1 := ⟨tG_in (List.mem_of_getElem? (i := 291) (by decide +kernel)) rfl, wi_X4_isGuest, wv_X4_isGuest, wn_X4, wc_X4_isGuest, by decide +kernel, by decide +kernel, by decide +kernel⟩
theorem gc_X4_98 : g_V RX4 98 yX0_needs cX0_needs 2 (some .int) 1 := ⟨tG_in (List.mem_of_getElem? (i := 295) (by decide +kernel)) rfl, wi_X0_needs, wv_X0_needs, wn_X0, wc_X0_needs, by decide +kernel, by decide +kernel, by decide +kernel⟩
theorem gc_X0_72 : g_S RX0 72 yX1_needs cX1_needs 6 (some .int) 4 := ⟨tG_in (List.mem_of_getElem? (i := 299) (by decide +kernel)) rfl, ws_X1_needs, wn_X1, wc_X1_needs, by decide +kernel, by decide +kernel, by decide +kernel⟩
theorem gc_X1_7 : g_S RX1 7 yJ9_max_7cf53 cJ9_max_7cf53 2 (some .int) 2 := ⟨tG_in (List.mem_of_getElem? (i := 302) (by decide +kernel)) rfl, ws_J9_max_7cf53, wn_J9, wc_J9_max_7cf53, by decide +kernel, by decide +kernel, by decide +kernel⟩
theorem gc_X4_104 : g_S RX4 104 yX1_steps cX1_steps 1 (some .int) 1 := ⟨tG_in (List.mem_of_getElem? (i := 303) (by decide +kernel)) rfl, ws_X1_steps, wn_X1, wc_X1_steps, by decide +kernel, by decide +kernel, by decide +kernel⟩
theorem gc_X4_112 : g_S RX4 112 yX1_laughs cX1_laughs 2 (some .int) 2 := ⟨tG_in (List.mem_of_getElem? (i := 306) (by decide +kernel)) rfl, ws_X1_laughs, wn_X1, wc_X1_laughs, by decide +kernel, by decide +kernel, by decide +kernel⟩
theorem gc_X4_115 : g_S RX4 115 yX1_laces cX1_laces 1 (some .int) 1 := ⟨tG_in (List.mem_of_getElem? (i := 309) (by decide +kernel)) rfl, ws_X1_laces, wn_X1, wc_X1_laces, by decide +kernel, by decide +kernel, by decide +kernel⟩
theorem gc_X4_118 : g_V RX4 118 yX0_trait cX0_trait 2 (some (.array .int)) 1 := ⟨tG_in (List.mem_of_getElem? (i := 312) (by decide +kernel)) rfl, wi_X0_trait, wv_X0_trait, wn_X0, wc_X0_trait, by decide +kernel, by decide +kernel, by decide +kernel⟩
theorem gc_L_43 : g_V RL 43 yX4_change cX4_change 6 (some .int) 3 := ⟨tG_in (List.mem_of_getElem? (i := 316) (by decide +kernel)) rfl, wi_X4_change, wv_X4_change, wn_X4, wc_X4_change, by decide +kernel, by decide +kernel, by decide +kernel⟩
theorem gc_L_48 : g_V RL 48 yX4_reach cX4_reach 3 (some .int) 2 := ⟨tG_in (List.mem_of_getElem? (i := 324) (by decide +kernel)) rfl, wi_X4_reach, wv_X4_reach, wn_X4, wc_X4_reach, by decide +kernel, by decide +kernel, by decide +kernel⟩
theorem gc_X4_128 : g_V RX4 128 yX0_reachable cX0_reachable 6 (some .int) 2 := ⟨tG_in (List.mem_of_getElem? (i := 328) (by decide +kernel)) rfl, wi_X0_reachable, wv_X0_reachable, wn_X0, wc_X0_reachable, by decide +kernel, by decide +kernel, by decide +kernel⟩
theorem gc_X0_88 : g_V RX0 88 yX0_needs cX0_needs 2 (some .int) 1 := ⟨tG_in (List.mem_of_getElem? (i := 332) (by decide +kernel)) rfl, wi_X0_needs, wv_X0_needs, wn_X0, wc_X0_needs, by decide +kernel, by decide +kernel, by decide +kernel⟩
theorem gc_X0_91 : g_V RX0 91 yX0_width cX0_width 3 (some .int) 2 := ⟨tG_in (List.mem_of_getElem? (i := 333) (by decide +kernel)) rfl, wi_X0_width, wv_X0_width, wn_X0, wc_X0_width, by decide +kernel, by decide +kernel, by decide +kernel⟩
theorem gc_L_52 : g_V RL 52 yX4_go cX4_go 2 (some .int) 1 := ⟨tG_in (List.mem_of_getElem? (i := 334) (by decide +kernel)) rfl, wi_X4_go, wv_X4_go, wn_X4, wc_X4_go, by decide +kernel, by decide +kernel, by decide +kernel⟩
theorem gc_X4_132 : g_V RX4 132 yX0_passHours cX0_passHours 3 (none : Option Jvm.ClassFile.FieldType) 1 := ⟨tG_in (List.mem_of_getElem? (i := 339) (by decide +kernel)) rfl, wi_X0_passHours, wv_X0_passHours, wn_X0, wc_X0_passHours, by decide +kernel, by decide +kernel, by decide +kernel⟩
theorem gc_X0_101 : g_V RX0 101 yX0_passHour cX0_passHour 3 (none : Option Jvm.ClassFile.FieldType) 0 := ⟨tG_in (List.mem_of_getElem? (i := 343) (by decide +kernel)) rfl, wi_X0_passHour, wv_X0_passHour, wn_X0, wc_X0_passHour, by decide +kernel, by decide +kernel, by decide +kernel⟩
theorem gc_X0_104 : g_V RX0 104 yX0_measureNow cX0_measureNow 1 (some .int) 0 := ⟨tG_in (List.mem_of_getElem? (i := 347) (by decide +kernel)) rfl, wi_X0_measureNow, wv_X0_measureNow, wn_X0, wc_X0_measureNow, by decide +kernel, by decide +kernel, by decide +kernel⟩
theorem gc_X0_78 : g_V RX0 78 yX0_placeNow cX0_placeNow 1 (some .int) 0 := ⟨tG_in (List.mem_of_getElem? (i := 351) (by decide +kernel)) rfl, wi_X0_placeNow, wv_X0_placeNow, wn_X0, wc_X0_placeNow, by decide +kernel, by decide +kernel, by decide +kernel⟩
theorem gc_X0_107 : g_V RX0 107 yX0_walk cX0_walk 7 (none : Option Jvm.ClassFile.FieldType) 2 := ⟨tG_in (List.mem_of_getElem? (i := 355) (by decide +kernel)) rfl, wi_X0_walk, wv_X0_walk, wn_X0, wc_X0_walk, by decide +kernel, by decide +kernel, by decide +kernel⟩
theorem gc_X0_119 : g_S RX0 119 yX1_steps cX1_steps 1 (some .int) 1 := ⟨tG_in (List.mem_of_getElem? (i := 359) (by decide +kernel)) rfl, ws_X1_steps, wn_X1, wc_X1_steps, by decide +kernel, by decide +kernel, by decide +kernel⟩
theorem gc_X0_116 : g_S RX0 116 yJ9_min_7cf53 cJ9_min_7cf53 2 (some .int) 2 := ⟨tG_in (List.mem_of_getElem? (i := 360) (by decide +kernel)) rfl, ws_J9_min_7cf53, wn_J9, wc_J9_min_7cf53, by decide +kernel, by decide +kernel, by decide +kernel⟩
theorem gc_X0_111 : g_V RX0 111 yX0_pull cX0_pull 5 (none : Option Jvm.ClassFile.FieldType) 1 := ⟨tG_in (List.mem_of_getElem? (i := 363) (by decide +kernel)) rfl, wi_X0_pull, wv_X0_pull, wn_X0, wc_X0_pull, by decide +kernel, by decide +kernel, by decide +kernel⟩
theorem gc_X0_122 : g_S RX0 122 yX1_laughs cX1_laughs 2 (some .int) 2 := ⟨tG_in (List.mem_of_getElem? (i := 367) (by decide +kernel)) rfl, ws_X1_laughs, wn_X1, wc_X1_laughs, by decide +kernel, by decide +kernel, by decide +kernel⟩
theorem gc_X0_125 : g_S RX0 125 yX1_laces cX1_laces 1 (some .int) 1 := ⟨tG_in (List.mem_of_getElem? (i := 368) (by decide +kernel)) rfl, ws_X1_laces, wn_X1, wc_X1_laces, by decide +kernel, by decide +kernel, by decide +kernel⟩
theorem gc_L_56 : g_V RL 56 yX4_now cX4_now 2 (some .int) 1 := ⟨tG_in (List.mem_of_getElem? (i := 370) (by decide +kernel)) rfl, wi_X4_now, wv_X4_now, wn_X4, wc_X4_now, by decide +kernel, by decide +kernel, by decide +kernel⟩
theorem gc_X4_136 : g_V RX4 136 yX0_measureNow cX0_measureNow 1 (some .int) 0 := ⟨tG_in (List.mem_of_getElem? (i := 374) (by decide +kernel)) rfl, wi_X0_measureNow, wv_X0_measureNow, wn_X0, wc_X0_measureNow, by decide +kernel, by decide +kernel, by decide +kernel⟩
theorem gc_X4_140 : g_V RX4 140 yX0_thoseStuck cX0_thoseStuck 3 (some .int) 0 := ⟨tG_in (List.mem_of_getElem? (i := 375) (by decide +kernel)) rfl, wi_X0_thoseStuck, wv_X0_thoseStuck, wn_X0, wc_X0_thoseStuck, by decide +kernel, by decide +kernel, by decide +kernel⟩
theorem gc_X4_143 : g_V RX4 143 yX0_thoseAtAim cX0_thoseAtAim 3 (some .int) 0 := ⟨tG_in (List.mem_of_getElem? (i := 379) (by decide +kernel)) rfl, wi_X0_thoseAtAim, wv_X0_thoseAtAim, wn_X0, wc_X0_thoseAtAim, by decide +kernel, by decide +kernel, by decide +kernel⟩
theorem gc_X4_146 : g_V RX4 146 yX0_thoseInHall cX0_thoseInHall 3 (some .int) 0 := ⟨tG_in (List.mem_of_getElem? (i := 383) (by decide +kernel)) rfl, wi_X0_thoseInHall, wv_X0_thoseInHall, wn_X0, wc_X0_thoseInHall, by decide +kernel, by decide +kernel, by decide +kernel⟩
theorem gc_X4_149 : g_V RX4 149 yX0_closedCells cX0_closedCells 4 (some .int) 0 := ⟨tG_in (List.mem_of_getElem? (i := 387) (by decide +kernel)) rfl, wi_X0_closedCells, wv_X0_closedCells, wn_X0, wc_X0_closedCells, by decide +kernel, by decide +kernel, by decide +kernel⟩
theorem gc_L_60 : g_V RL 60 yX4_ahead cX4_ahead 4 (some .int) 3 := ⟨tG_in (List.mem_of_getElem? (i := 391) (by decide +kernel)) rfl, wi_X4_ahead, wv_X4_ahead, wn_X4, wc_X4_ahead, by decide +kernel, by decide +kernel, by decide +kernel⟩
theorem gc_X4_152 : g_V RX4 152 yX4_startTrial cX4_startTrial 1 (none : Option Jvm.ClassFile.FieldType) 0 := ⟨tG_in (List.mem_of_getElem? (i := 395) (by decide +kernel)) rfl, wi_X4_startTrial, wv_X4_startTrial, wn_X4, wc_X4_startTrial, by decide +kernel, by decide +kernel, by decide +kernel⟩
theorem gc_X4_221 : g_V RX4 221 yX0_become cX0_become 2 (none : Option Jvm.ClassFile.FieldType) 1 := ⟨tG_in (List.mem_of_getElem? (i := 399) (by decide +kernel)) rfl, wi_X0_become, wv_X0_become, wn_X0, wc_X0_become, by decide +kernel, by decide +kernel, by decide +kernel⟩
theorem gc_L_64 : g_V RL 64 yX4_strain cX4_strain 2 (some .int) 1 := ⟨tG_in (List.mem_of_getElem? (i := 406) (by decide +kernel)) rfl, wi_X4_strain, wv_X4_strain, wn_X4, wc_X4_strain, by decide +kernel, by decide +kernel, by decide +kernel⟩
theorem gc_L_68 : g_V RL 68 yX4_snaps cX4_snaps 2 (some .int) 0 := ⟨tG_in (List.mem_of_getElem? (i := 410) (by decide +kernel)) rfl, wi_X4_snaps, wv_X4_snaps, wn_X4, wc_X4_snaps, by decide +kernel, by decide +kernel, by decide +kernel⟩
theorem gc_X4_155 : g_V RX4 155 yX0_passHour cX0_passHour 3 (none : Option Jvm.ClassFile.FieldType) 0 := ⟨tG_in (List.mem_of_getElem? (i := 414) (by decide +kernel)) rfl, wi_X0_passHour, wv_X0_passHour, wn_X0, wc_X0_passHour, by decide +kernel, by decide +kernel, by decide +kernel⟩
theorem gc_L_73 : g_V RL 73 yX4_comes cX4_comes 4 (some .int) 2 := ⟨tG_in (List.mem_of_getElem? (i := 415) (by decide +kernel)) rfl, wi_X4_comes, wv_X4_comes, wn_X4, wc_X4_comes, by decide +kernel, by decide +kernel, by decide +kernel⟩
theorem gc_L_77 : g_V RL 77 yX4_stuck cX4_stuck 4 (some .int) 2 := ⟨tG_in (List.mem_of_getElem? (i := 419) (by decide +kernel)) rfl, wi_X4_stuck, wv_X4_stuck, wn_X4, wc_X4_stuck, by decide +kernel, by decide +kernel, by decide +kernel⟩
theorem gc_L_81 : g_V RL 81 yX4_tight cX4_tight 4 (some .int) 2 := ⟨tG_in (List.mem_of_getElem? (i := 423) (by decide +kernel)) rfl, wi_X4_tight, wv_X4_tight, wn_X4, wc_X4_tight, by decide +kernel, by decide +kernel, by decide +kernel⟩
theorem gc_X4_164 : g_V RX4 164 yX0_holdsFor cX0_holdsFor 3 (some .boolean) 1 := ⟨tG_in (List.mem_of_getElem? (i := 427) (by decide +kernel)) rfl, wi_X0_holdsFor, wv_X0_holdsFor, wn_X0, wc_X0_holdsFor, by decide +kernel, by decide +kernel, by decide +kernel⟩
theorem gc_L_85 : g_V RL 85 yX4_measureFor cX4_measureFor 4 (some .int) 2 := ⟨tG_in (List.mem_of_getElem? (i := 431) (by decide +kernel)) rfl, wi_X4_measureFor, wv_X4_measureFor, wn_X4, wc_X4_measureFor, by decide +kernel, by decide +kernel, by decide +kernel⟩
theorem gc_X4_167 : g_V RX4 167 yX0_canReach cX0_canReach 4 (some .boolean) 3 := ⟨tG_in (List.mem_of_getElem? (i := 435) (by decide +kernel)) rfl, wi_X0_canReach, wv_X0_canReach, wn_X0, wc_X0_canReach, by decide +kernel, by decide +kernel, by decide +kernel⟩
theorem gc_X0_94 : g_V RX0 94 yX0_reachable cX0_reachable 6 (some .int) 2 := ⟨tG_in (List.mem_of_getElem? (i := 439) (by decide +kernel)) rfl, wi_X0_reachable, wv_X0_reachable, wn_X0, wc_X0_reachable, by decide +kernel, by decide +kernel, by decide +kernel⟩
theorem gc_L_89 : g_V RL 89 yX4_kindFor cX4_kindFor 6 (some .int) 2 := ⟨tG_in (List.mem_of_getElem? (i := 440) (by decide +kernel)) rfl, wi_X4_kindFor, wv_X4_kindFor, wn_X4, wc_X4_kindFor, by decide +kernel, by decide +kernel, by decide +kernel⟩
theorem gc_L_93 : g_V RL 93 yX4_sizeFor cX4_sizeFor 4 (some .int) 2 := ⟨tG_in (List.mem_of_getElem? (i := 444) (by decide +kernel)) rfl, wi_X4_sizeFor, wv_X4_sizeFor, wn_X4, wc_X4_sizeFor, by decide +kernel, by decide +kernel, by decide +kernel⟩
theorem gc_L_97 : g_V RL 97 yX4_send cX4_send 5 (some .int) 1 := ⟨tG_in (List.mem_of_getElem? (i := 448) (by decide +kernel)) rfl, wi_X4_send, wv_X4_send, wn_X4, wc_X4_send, by decide +kernel, by decide +kernel, by decide +kernel⟩
theorem gc_X4_179 : g_S RX4 179 yJ6_bitCount_0f7a4 cJ6_bitCount_0f7a4 1 (some .int) 1 := ⟨tG_in (List.mem_of_getElem? (i := 452) (by decide +kernel)) rfl, ws_J6_bitCount_0f7a4, wn_J6, wc_J6_bitCount_0f7a4, by decide +kernel, by decide +kernel, by decide +kernel⟩
theorem gc_X4_184 : g_V RX4 184 yX0_sendHome cX0_sendHome 3 (none : Option Jvm.ClassFile.FieldType) 1 := ⟨tG_in (List.mem_of_getElem? (i := 458) (by decide +kernel)) rfl, wi_X0_sendHome, wv_X0_sendHome, wn_X0, wc_X0_sendHome, by decide +kernel, by decide +kernel, by decide +kernel⟩
theorem gc_L_101 : g_V RL 101 yX4_fits cX4_fits 6 (some .int) 2 := ⟨tG_in (List.mem_of_getElem? (i := 462) (by decide +kernel)) rfl, wi_X4_fits, wv_X4_fits, wn_X4, wc_X4_fits, by decide +kernel, by decide +kernel, by decide +kernel⟩
theorem gc_X4_187 : g_V RX4 187 yX4_lackOfTold cX4_lackOfTold 4 (some .int) 2 := ⟨tG_in (List.mem_of_getElem? (i := 466) (by decide +kernel)) rfl, wi_X4_lackOfTold, wv_X4_lackOfTold, wn_X4, wc_X4_lackOfTold, by decide +kernel, by decide +kernel, by decide +kernel⟩
theorem gc_X4_244 : g_V RX4 244 yX4_lackOfSheet cX4_lackOfSheet 2 (some .int) 1 := ⟨tG_in (List.mem_of_getElem? (i := 470) (by decide +kernel)) rfl, wi_X4_lackOfSheet, wv_X4_lackOfSheet, wn_X4, wc_X4_lackOfSheet, by decide +kernel, by decide +kernel, by decide +kernel⟩
theorem gc_X4_234 : g_S RX4 234 yX2_isSheet cX2_isSheet 1 (some .boolean) 1 := ⟨tG_in (List.mem_of_getElem? (i := 474) (by decide +kernel)) rfl, ws_X2_isSheet, wn_X2, wc_X2_isSheet, by decide +kernel, by decide +kernel, by decide +kernel⟩
theorem gc_X4_253 : g_V RX4 253 yX2_isMissing cX2_isMissing 2 (some .boolean) 1 := ⟨tG_in (List.mem_of_getElem? (i := 477) (by decide +kernel)) rfl, wi_X2_isMissing, wv_X2_isMissing, wn_X2, wc_X2_isMissing, by decide +kernel, by decide +kernel, by decide +kernel⟩
theorem gc_X4_190 : g_V RX4 190 yX0_placeNow cX0_placeNow 1 (some .int) 0 := ⟨tG_in (List.mem_of_getElem? (i := 481) (by decide +kernel)) rfl, wi_X0_placeNow, wv_X0_placeNow, wn_X0, wc_X0_placeNow, by decide +kernel, by decide +kernel, by decide +kernel⟩
theorem gc_X4_193 : g_V RX4 193 yX4_trialGoesAsTold cX4_trialGoesAsTold 5 (some .boolean) 2 := ⟨tG_in (List.mem_of_getElem? (i := 482) (by decide +kernel)) rfl, wi_X4_trialGoesAsTold, wv_X4_trialGoesAsTold, wn_X4, wc_X4_trialGoesAsTold, by decide +kernel, by decide +kernel, by decide +kernel⟩
theorem gc_L_105 : g_V RL 105 yX4_kinds cX4_kinds 6 (some .int) 2 := ⟨tG_in (List.mem_of_getElem? (i := 486) (by decide +kernel)) rfl, wi_X4_kinds, wv_X4_kinds, wn_X4, wc_X4_kinds, by decide +kernel, by decide +kernel, by decide +kernel⟩
theorem gc_L_109 : g_V RL 109 yX4_party cX4_party 3 (some .int) 1 := ⟨tG_in (List.mem_of_getElem? (i := 490) (by decide +kernel)) rfl, wi_X4_party, wv_X4_party, wn_X4, wc_X4_party, by decide +kernel, by decide +kernel, by decide +kernel⟩
theorem gc_X4_197 : g_V RX4 197 yX0_passPartyHour cX0_passPartyHour 2 (none : Option Jvm.ClassFile.FieldType) 0 := ⟨tG_in (List.mem_of_getElem? (i := 494) (by decide +kernel)) rfl, wi_X0_passPartyHour, wv_X0_passPartyHour, wn_X0, wc_X0_passPartyHour, by decide +kernel, by decide +kernel, by decide +kernel⟩
theorem gc_X0_129 : g_V RX0 129 yX0_draw cX0_draw 1 (some .int) 0 := ⟨tG_in (List.mem_of_getElem? (i := 498) (by decide +kernel)) rfl, wi_X0_draw, wv_X0_draw, wn_X0, wc_X0_draw, by decide +kernel, by decide +kernel, by decide +kernel⟩
theorem gc_L_113 : g_V RL 113 yX4_odds cX4_odds 10 (some .long) 3 := ⟨tG_in (List.mem_of_getElem? (i := 503) (by decide +kernel)) rfl, wi_X4_odds, wv_X4_odds, wn_X4, wc_X4_odds, by decide +kernel, by decide +kernel, by decide +kernel⟩
theorem gc_X4_200 : g_V RX4 200 yX0_measuresToAim cX0_measuresToAim 4 (some .int) 1 := ⟨tG_in (List.mem_of_getElem? (i := 507) (by decide +kernel)) rfl, wi_X0_measuresToAim, wv_X0_measuresToAim, wn_X0, wc_X0_measuresToAim, by decide +kernel, by decide +kernel, by decide +kernel⟩
theorem gc_X0_97 : g_V RX0 97 yX0_canReach cX0_canReach 4 (some .boolean) 3 := ⟨tG_in (List.mem_of_getElem? (i := 511) (by decide +kernel)) rfl, wi_X0_canReach, wv_X0_canReach, wn_X0, wc_X0_canReach, by decide +kernel, by decide +kernel, by decide +kernel⟩
theorem gc_X4_203 : g_S RX4 203 yX4_commonDivisor cX4_commonDivisor 6 (some .int) 2 := ⟨tG_in (List.mem_of_getElem? (i := 512) (by decide +kernel)) rfl, ws_X4_commonDivisor, wn_X4, wc_X4_commonDivisor, by decide +kernel, by decide +kernel, by decide +kernel⟩
theorem gc_L_118 : g_V RL 118 yX4_seed cX4_seed 3 (some .int) 1 := ⟨tG_in (List.mem_of_getElem? (i := 515) (by decide +kernel)) rfl, wi_X4_seed, wv_X4_seed, wn_X4, wc_X4_seed, by decide +kernel, by decide +kernel, by decide +kernel⟩
theorem gc_L_122 : g_V RL 122 yX4_feed cX4_feed 4 (some .int) 2 := ⟨tG_in (List.mem_of_getElem? (i := 519) (by decide +kernel)) rfl, wi_X4_feed, wv_X4_feed, wn_X4, wc_X4_feed, by decide +kernel, by decide +kernel, by decide +kernel⟩
theorem gc_X4_209 : g_V RX4 209 yX3_hasRoomFor cX3_hasRoomFor 2 (some .boolean) 1 := ⟨tG_in (List.mem_of_getElem? (i := 523) (by decide +kernel)) rfl, wi_X3_hasRoomFor, wv_X3_hasRoomFor, wn_X3, wc_X3_hasRoomFor, by decide +kernel, by decide +kernel, by decide +kernel⟩
theorem gc_X4_212 : g_V RX4 212 yX3_add cX3_add 2 (none : Option Jvm.ClassFile.FieldType) 1 := ⟨tG_in (List.mem_of_getElem? (i := 527) (by decide +kernel)) rfl, wi_X3_add, wv_X3_add, wn_X3, wc_X3_add, by decide +kernel, by decide +kernel, by decide +kernel⟩
theorem gc_X3_29 : g_V RX3 29 yX3_hasRoomFor cX3_hasRoomFor 2 (some .boolean) 1 := ⟨tG_in (List.mem_of_getElem? (i := 531) (by decide +kernel)) rfl, wi_X3_hasRoomFor, wv_X3_hasRoomFor, wn_X3, wc_X3_hasRoomFor, by decide +kernel, by decide +kernel, by decide +kernel⟩
theorem gc_L_126 : g_V RL 126 yX4_wipe cX4_wipe 2 (some .int) 0 := ⟨tG_in (List.mem_of_getElem? (i := 532) (by decide +kernel)) rfl, wi_X4_wipe, wv_X4_wipe, wn_X4, wc_X4_wipe, by decide +kernel, by decide +kernel, by decide +kernel⟩
theorem gc_L_130 : g_V RL 130 yX4_text cX4_text 2 (some .int) 0 := ⟨tG_in (List.mem_of_getElem? (i := 536) (by decide +kernel)) rfl, wi_X4_text, wv_X4_text, wn_X4, wc_X4_text, by decide +kernel, by decide +kernel, by decide +kernel⟩
theorem gc_X4_217 : g_V RX4 217 yX3_read cX3_read 3 (some .int) 1 := ⟨tG_in (List.mem_of_getElem? (i := 540) (by decide +kernel)) rfl, wi_X3_read, wv_X3_read, wn_X3, wc_X3_read, by decide +kernel, by decide +kernel, by decide +kernel⟩
theorem gc_X3_33 : g_V RX3 33 yX3_next cX3_next 1 (none : Option Jvm.ClassFile.FieldType) 0 := ⟨tG_in (List.mem_of_getElem? (i := 544) (by decide +kernel)) rfl, wi_X3_next, wv_X3_next, wn_X3, wc_X3_next, by decide +kernel, by decide +kernel, by decide +kernel⟩
theorem gc_X3_132 : g_S RX3 132 yX3_isLetter cX3_isLetter 1 (some .boolean) 1 := ⟨tG_in (List.mem_of_getElem? (i := 548) (by decide +kernel)) rfl, ws_X3_isLetter, wn_X3, wc_X3_isLetter, by decide +kernel, by decide +kernel, by decide +kernel⟩
theorem gc_X3_135 : g_S RX3 135 yX3_isDigit cX3_isDigit 1 (some .boolean) 1 := ⟨tG_in (List.mem_of_getElem? (i := 551) (by decide +kernel)) rfl, ws_X3_isDigit, wn_X3, wc_X3_isDigit, by decide +kernel, by decide +kernel, by decide +kernel⟩
theorem gc_X3_138 : g_S RX3 138 yJ9_min_7cf53 cJ9_min_7cf53 2 (some .int) 2 := ⟨tG_in (List.mem_of_getElem? (i := 554) (by decide +kernel)) rfl, ws_J9_min_7cf53, wn_J9, wc_J9_min_7cf53, by decide +kernel, by decide +kernel, by decide +kernel⟩
theorem gc_X3_36 : g_V RX3 36 yX3_readItem cX3_readItem 3 (some .boolean) 1 := ⟨tG_in (List.mem_of_getElem? (i := 555) (by decide +kernel)) rfl, wi_X3_readItem, wv_X3_readItem, wn_X3, wc_X3_readItem, by decide +kernel, by decide +kernel, by decide +kernel⟩
theorem gc_X3_40 : g_V RX3 40 yX3_kindTold cX3_kindTold 2 (some .int) 0 := ⟨tG_in (List.mem_of_getElem? (i := 559) (by decide +kernel)) rfl, wi_X3_kindTold, wv_X3_kindTold, wn_X3, wc_X3_kindTold, by decide +kernel, by decide +kernel, by decide +kernel⟩
theorem gc_X3_106 : g_S RX3 106 yX3_wordOf cX3_wordOf 1 (some (.object "java/lang/String")) 1 := ⟨tG_in (List.mem_of_getElem? (i := 563) (by decide +kernel)) rfl, ws_X3_wordOf, wn_X3, wc_X3_wordOf, by decide +kernel, by decide +kernel, by decide +kernel⟩
theorem gc_X3_50 : g_V RX3 50 yX3_isWord cX3_isWord 3 (some .boolean) 1 := ⟨tG_in (List.mem_of_getElem? (i := 573) (by decide +kernel)) rfl, wi_X3_isWord, wv_X3_isWord, wn_X3, wc_X3_isWord, by decide +kernel, by decide +kernel, by decide +kernel⟩
theorem gc_X3_124 : g_V RX3 124 yJ0_length_8abf5 cJ0_length_8abf5 1 (some .int) 0 := ⟨tG_in (List.mem_of_getElem? (i := 577) (by decide +kernel)) rfl, wi_J0_length_8abf5, wv_J0_length_8abf5, wn_J0, wc_J0_length_8abf5, by decide +kernel, by decide +kernel, by decide +kernel⟩
theorem gc_J0_335 : g_V RJ0 335 yJ0_coder_7d493 cJ0_coder_7d493 1 (some .byte) 0 := ⟨tG_in (List.mem_of_getElem? (i := 581) (by decide +kernel)) rfl, wi_J0_coder_7d493, wv_J0_coder_7d493, wn_J0, wc_J0_coder_7d493, by decide +kernel, by decide +kernel, by decide +kernel⟩
theorem gc_X3_128 : g_V RX3 128 yJ0_charAt_5068e cJ0_charAt_5068e 2 (some .char) 1 := ⟨tG_in (List.mem_of_getElem? (i := 587) (by decide +kernel)) rfl, wi_J0_charAt_5068e, wv_J0_charAt_5068e, wn_J0, wc_J0_charAt_5068e, by decide +kernel, by decide +kernel, by decide +kernel⟩
theorem gc_J0_492 : g_V RJ0 492 yJ0_isLatin1_aae02 cJ0_isLatin1_aae02 1 (some .boolean) 0 := ⟨tG_in (List.mem_of_getElem? (i := 591) (by decide +kernel)) rfl, wi_J0_isLatin1_aae02, wv_J0_isLatin1_aae02, wn_J0, wc_J0_isLatin1_aae02, by decide +kernel, by decide +kernel, by decide +kernel⟩
theorem gc_J0_495 : g_S RJ0 495 yJ1_charAt_3b067 cJ1_charAt_3b067 2 (some .char) 2 := ⟨tG_in (List.mem_of_getElem? (i := 595) (by decide +kernel)) rfl, ws_J1_charAt_3b067, wn_J1, wc_J1_charAt_3b067, by decide +kernel, by decide +kernel, by decide +kernel⟩
theorem gc_J1_9 : g_S RJ1 9 yJ0_checkIndex_df160 cJ0_checkIndex_df160 2 (none : Option Jvm.ClassFile.FieldType) 2 := ⟨tG_in (List.mem_of_getElem? (i := 598) (by decide +kernel)) rfl, ws_J0_checkIndex_df160, wn_J0, wc_J0_checkIndex_df160, by decide +kernel, by decide +kernel, by decide +kernel⟩
theorem gc_J0_1059 : g_S RJ0 1059 yJ3_checkIndex_8e157 cJ3_checkIndex_8e157 3 (some .int) 3 := ⟨tG_in (List.mem_of_getElem? (i := 603) (by decide +kernel)) rfl, ws_J3_checkIndex_8e157, wn_J3, wc_J3_checkIndex_8e157, by decide +kernel, by decide +kernel, by decide +kernel⟩
theorem gc_X3_44 : g_V RX3 44 yX3_readGuest cX3_readGuest 5 (some .boolean) 2 := ⟨tG_in (List.mem_of_getElem? (i := 625) (by decide +kernel)) rfl, wi_X3_readGuest, wv_X3_readGuest, wn_X3, wc_X3_readGuest, by decide +kernel, by decide +kernel, by decide +kernel⟩
theorem gc_X3_81 : g_V RX3 81 yX0_isFull cX0_isFull 1 (some .boolean) 0 := ⟨tG_in (List.mem_of_getElem? (i := 629) (by decide +kernel)) rfl, wi_X0_isFull, wv_X0_isFull, wn_X0, wc_X0_isFull, by decide +kernel, by decide +kernel, by decide +kernel⟩
theorem gc_X3_75 : g_V RX3 75 yX3_takeNumber cX3_takeNumber 3 (some .boolean) 2 := ⟨tG_in (List.mem_of_getElem? (i := 631) (by decide +kernel)) rfl, wi_X3_takeNumber, wv_X3_takeNumber, wn_X3, wc_X3_takeNumber, by decide +kernel, by decide +kernel, by decide +kernel⟩
theorem gc_X3_87 : g_V RX3 87 yX0_add cX0_add 3 (some .int) 2 := ⟨tG_in (List.mem_of_getElem? (i := 635) (by decide +kernel)) rfl, wi_X0_add, wv_X0_add, wn_X0, wc_X0_add, by decide +kernel, by decide +kernel, by decide +kernel⟩
theorem gc_X3_95 : g_V RX3 95 yX3_readTrait cX3_readTrait 6 (some .boolean) 5 := ⟨tG_in (List.mem_of_getElem? (i := 637) (by decide +kernel)) rfl, wi_X3_readTrait, wv_X3_readTrait, wn_X3, wc_X3_readTrait, by decide +kernel, by decide +kernel, by decide +kernel⟩
theorem gc_X3_59 : g_V RX3 59 yX3_readPair cX3_readPair 5 (some .boolean) 3 := ⟨tG_in (List.mem_of_getElem? (i := 643) (by decide +kernel)) rfl, wi_X3_readPair, wv_X3_readPair, wn_X3, wc_X3_readPair, by decide +kernel, by decide +kernel, by decide +kernel⟩
theorem gc_L_134 : g_V RL 134 yX4_hold cX4_hold 3 (some .int) 2 := ⟨tG_in (List.mem_of_getElem? (i := 651) (by decide +kernel)) rfl, wi_X4_hold, wv_X4_hold, wn_X4, wc_X4_hold, by decide +kernel, by decide +kernel, by decide +kernel⟩
theorem gc_X4_225 : g_S RX4 225 yX4_isSpot cX4_isSpot 1 (some .boolean) 1 := ⟨tG_in (List.mem_of_getElem? (i := 655) (by decide +kernel)) rfl, ws_X4_isSpot, wn_X4, wc_X4_isSpot, by decide +kernel, by decide +kernel, by decide +kernel⟩
theorem gc_L_138 : g_V RL 138 yX4_as cX4_as 4 (some .int) 2 := ⟨tG_in (List.mem_of_getElem? (i := 658) (by decide +kernel)) rfl, wi_X4_as, wv_X4_as, wn_X4, wc_X4_as, by decide +kernel, by decide +kernel, by decide +kernel⟩
theorem gc_X4_231 : g_S RX4 231 yX1_isUnder cX1_isUnder 4 (some .boolean) 2 := ⟨tG_in (List.mem_of_getElem? (i := 662) (by decide +kernel)) rfl, ws_X1_isUnder, wn_X1, wc_X1_isUnder, by decide +kernel, by decide +kernel, by decide +kernel⟩
theorem gc_L_142 : g_V RL 142 yX4_sheet cX4_sheet 4 (some .int) 3 := ⟨tG_in (List.mem_of_getElem? (i := 667) (by decide +kernel)) rfl, wi_X4_sheet, wv_X4_sheet, wn_X4, wc_X4_sheet, by decide +kernel, by decide +kernel, by decide +kernel⟩
theorem gc_X4_237 : g_S RX4 237 yX2_areBits cX2_areBits 1 (some .boolean) 1 := ⟨tG_in (List.mem_of_getElem? (i := 671) (by decide +kernel)) rfl, ws_X2_areBits, wn_X2, wc_X2_areBits, by decide +kernel, by decide +kernel, by decide +kernel⟩
theorem gc_X4_240 : g_V RX4 240 yX2_make cX2_make 4 (some .int) 3 := ⟨tG_in (List.mem_of_getElem? (i := 674) (by decide +kernel)) rfl, wi_X2_make, wv_X2_make, wn_X2, wc_X2_make, by decide +kernel, by decide +kernel, by decide +kernel⟩
theorem gc_X2_21 : g_S RX2 21 yJ7_fill_53178 cJ7_fill_53178 4 (none : Option Jvm.ClassFile.FieldType) 2 := ⟨tG_in (List.mem_of_getElem? (i := 678) (by decide +kernel)) rfl, ws_J7_fill_53178, wn_J7, wc_J7_fill_53178, by decide +kernel, by decide +kernel, by decide +kernel⟩
theorem gc_L_146 : g_V RL 146 yX4_write cX4_write 5 (some .int) 3 := ⟨tG_in (List.mem_of_getElem? (i := 679) (by decide +kernel)) rfl, wi_X4_write, wv_X4_write, wn_X4, wc_X4_write, by decide +kernel, by decide +kernel, by decide +kernel⟩
theorem gc_X4_249 : g_V RX4 249 yX2_put cX2_put 5 (none : Option Jvm.ClassFile.FieldType) 3 := ⟨tG_in (List.mem_of_getElem? (i := 683) (by decide +kernel)) rfl, wi_X2_put, wv_X2_put, wn_X2, wc_X2_put, by decide +kernel, by decide +kernel, by decide +kernel⟩
theorem gc_L_150 : g_V RL 150 yX4_copy cX4_copy 6 (some .int) 5 := ⟨tG_in (List.mem_of_getElem? (i := 687) (by decide +kernel)) rfl, wi_X4_copy, wv_X4_copy, wn_X4, wc_X4_copy, by decide +kernel, by decide +kernel, by decide +kernel⟩
theorem gc_X4_259 : g_V RX4 259 yX2_hasRange cX2_hasRange 4 (some .boolean) 3 := ⟨tG_in (List.mem_of_getElem? (i := 691) (by decide +kernel)) rfl, wi_X2_hasRange, wv_X2_hasRange, wn_X2, wc_X2_hasRange, by decide +kernel, by decide +kernel, by decide +kernel⟩
theorem gc_L_155 : g_V RL 155 yX4_load cX4_load 5 (some .int) 1 := ⟨tG_in (List.mem_of_getElem? (i := 696) (by decide +kernel)) rfl, wi_X4_load, wv_X4_load, wn_X4, wc_X4_load, by decide +kernel, by decide +kernel, by decide +kernel⟩
theorem gc_X4_272 : g_S RX4 272 yJ9_min_7cf53 cJ9_min_7cf53 2 (some .int) 2 := ⟨tG_in (List.mem_of_getElem? (i := 700) (by decide +kernel)) rfl, ws_J9_min_7cf53, wn_J9, wc_J9_min_7cf53, by decide +kernel, by decide +kernel, by decide +kernel⟩
theorem gc_L_159 : g_V RL 159 yX4_judge cX4_judge 4 (some .int) 1 := ⟨tG_in (List.mem_of_getElem? (i := 701) (by decide +kernel)) rfl, wi_X4_judge, wv_X4_judge, wn_X4, wc_X4_judge, by decide +kernel, by decide +kernel, by decide +kernel⟩
theorem gc_L_163 : g_V RL 163 yX4_image cX4_image 1 (some .int) 0 := ⟨tG_in (List.mem_of_getElem? (i := 705) (by decide +kernel)) rfl, wi_X4_image, wv_X4_image, wn_X4, wc_X4_image, by decide +kernel, by decide +kernel, by decide +kernel⟩
theorem gc_L_167 : g_V RL 167 yX4_undo cX4_undo 1 (some .int) 0 := ⟨tG_in (List.mem_of_getElem? (i := 709) (by decide +kernel)) rfl, wi_X4_undo, wv_X4_undo, wn_X4, wc_X4_undo, by decide +kernel, by decide +kernel, by decide +kernel⟩
theorem gc_L_171 : g_V RL 171 yX4_tear cX4_tear 2 (some .int) 0 := ⟨tG_in (List.mem_of_getElem? (i := 713) (by decide +kernel)) rfl, wi_X4_tear, wv_X4_tear, wn_X4, wc_X4_tear, by decide +kernel, by decide +kernel, by decide +kernel⟩
theorem gc_L_175 : g_V RL 175 yX4_count cX4_count 2 (some .int) 1 := ⟨tG_in (List.mem_of_getElem? (i := 717) (by decide +kernel)) rfl, wi_X4_count, wv_X4_count, wn_X4, wc_X4_count, by decide +kernel, by decide +kernel, by decide +kernel⟩
theorem gc_X4_277 : g_V RX4 277 yX0_howManyHome cX0_howManyHome 3 (some .int) 0 := ⟨tG_in (List.mem_of_getElem? (i := 721) (by decide +kernel)) rfl, wi_X0_howManyHome, wv_X0_howManyHome, wn_X0, wc_X0_howManyHome, by decide +kernel, by decide +kernel, by decide +kernel⟩
theorem gc_X4_280 : g_V RX4 280 yX0_howManyHeld cX0_howManyHeld 3 (some .int) 0 := ⟨tG_in (List.mem_of_getElem? (i := 725) (by decide +kernel)) rfl, wi_X0_howManyHeld, wv_X0_howManyHeld, wn_X0, wc_X0_howManyHeld, by decide +kernel, by decide +kernel, by decide +kernel⟩
theorem gc_L_179 : g_V RL 179 yX4_status cX4_status 4 (some .int) 1 := ⟨tG_in (List.mem_of_getElem? (i := 729) (by decide +kernel)) rfl, wi_X4_status, wv_X4_status, wn_X4, wc_X4_status, by decide +kernel, by decide +kernel, by decide +kernel⟩
theorem gc_L_12 : g_I RL 12 yX5_init cX5_init 2 0 := ⟨tG_in (List.mem_of_getElem? (i := 735) (by decide +kernel)) rfl, wi_X5_init, wn_X5, wc_X5_init, by decide +kernel, by decide +kernel, rfl, by decide +kernel⟩
theorem gc_L_17 : g_V RL 17 yX5_set cX5_set 4 (some .int) 2 := ⟨tG_in (List.mem_of_getElem? (i := 809) (by decide +kernel)) rfl, wi_X5_set, wv_X5_set, wn_X5, wc_X5_set, by decide +kernel, by decide +kernel, by decide +kernel⟩
theorem gc_X5_70 : g_S RX5 70 yX5_within cX5_within 3 (some .boolean) 3 := ⟨tG_in (List.mem_of_getElem? (i := 813) (by decide +kernel)) rfl, ws_X5_within, wn_X5, wc_X5_within, by decide +kernel, by decide +kernel, by decide +kernel⟩
theorem gc_X5_74 : g_S RX5 74 yX5_isOften cX5_isOften 1 (some .boolean) 1 := ⟨tG_in (List.mem_of_getElem? (i := 816) (by decide +kernel)) rfl, ws_X5_isOften, wn_X5, wc_X5_isOften, by decide +kernel, by decide +kernel, by decide +kernel⟩
theorem gc_X5_78 : g_V RX5 78 yX5_become cX5_become 4 (some .int) 2 := ⟨tG_in (List.mem_of_getElem? (i := 819) (by decide +kernel)) rfl, wi_X5_become, wv_X5_become, wn_X5, wc_X5_become, by decide +kernel, by decide +kernel, by decide +kernel⟩
theorem gc_X5_66 : g_V RX5 66 yX5_finding cX5_finding 2 (some .int) 1 := ⟨tG_in (List.mem_of_getElem? (i := 824) (by decide +kernel)) rfl, wi_X5_finding, wv_X5_finding, wn_X5, wc_X5_finding, by decide +kernel, by decide +kernel, by decide +kernel⟩
theorem gc_L_21 : g_V RL 21 yX5_cell cX5_cell 3 (some .int) 2 := ⟨tG_in (List.mem_of_getElem? (i := 828) (by decide +kernel)) rfl, wi_X5_cell, wv_X5_cell, wn_X5, wc_X5_cell, by decide +kernel, by decide +kernel, by decide +kernel⟩
theorem gc_X5_82 : g_S RX5 82 yX5_isCell cX5_isCell 1 (some .boolean) 1 := ⟨tG_in (List.mem_of_getElem? (i := 832) (by decide +kernel)) rfl, ws_X5_isCell, wn_X5, wc_X5_isCell, by decide +kernel, by decide +kernel, by decide +kernel⟩
theorem gc_X5_85 : g_S RX5 85 yX5_isBase cX5_isBase 1 (some .boolean) 1 := ⟨tG_in (List.mem_of_getElem? (i := 835) (by decide +kernel)) rfl, ws_X5_isBase, wn_X5, wc_X5_isBase, by decide +kernel, by decide +kernel, by decide +kernel⟩
theorem gc_L_25 : g_V RL 25 yX5_measure cX5_measure 3 (some .int) 2 := ⟨tG_in (List.mem_of_getElem? (i := 838) (by decide +kernel)) rfl, wi_X5_measure, wv_X5_measure, wn_X5, wc_X5_measure, by decide +kernel, by decide +kernel, by decide +kernel⟩
theorem gc_X5_88 : g_S RX5 88 yX5_isPlace cX5_isPlace 1 (some .boolean) 1 := ⟨tG_in (List.mem_of_getElem? (i := 842) (by decide +kernel)) rfl, ws_X5_isPlace, wn_X5, wc_X5_isPlace, by decide +kernel, by decide +kernel, by decide +kernel⟩
theorem gc_X5_91 : g_S RX5 91 yX5_isMeasure cX5_isMeasure 1 (some .boolean) 1 := ⟨tG_in (List.mem_of_getElem? (i := 845) (by decide +kernel)) rfl, ws_X5_isMeasure, wn_X5, wc_X5_isMeasure, by decide +kernel, by decide +kernel, by decide +kernel⟩
theorem gc_L_30 : g_V RL 30 yX5_listed cX5_listed 2 (some .int) 1 := ⟨tG_in (List.mem_of_getElem? (i := 848) (by decide +kernel)) rfl, wi_X5_listed, wv_X5_listed, wn_X5, wc_X5_listed, by decide +kernel, by decide +kernel, by decide +kernel⟩
theorem gc_L_34 : g_V RL 34 yX5_wide cX5_wide 3 (some .int) 2 := ⟨tG_in (List.mem_of_getElem? (i := 852) (by decide +kernel)) rfl, wi_X5_wide, wv_X5_wide, wn_X5, wc_X5_wide, by decide +kernel, by decide +kernel, by decide +kernel⟩
theorem gc_X5_103 : g_V RX5 103 yX5_wideAt cX5_wideAt 3 (some .int) 2 := ⟨tG_in (List.mem_of_getElem? (i := 856) (by decide +kernel)) rfl, wi_X5_wideAt, wv_X5_wideAt, wn_X5, wc_X5_wideAt, by decide +kernel, by decide +kernel, by decide +kernel⟩
theorem gc_X5_98 : g_S RX5 98 yJ9_max_7cf53 cJ9_max_7cf53 2 (some .int) 2 := ⟨tG_in (List.mem_of_getElem? (i := 860) (by decide +kernel)) rfl, ws_J9_max_7cf53, wn_J9, wc_J9_max_7cf53, by decide +kernel, by decide +kernel, by decide +kernel⟩
theorem gc_L_38 : g_V RL 38 yX5_guest cX5_guest 3 (some .int) 2 := ⟨tG_in (List.mem_of_getElem? (i := 861) (by decide +kernel)) rfl, wi_X5_guest, wv_X5_guest, wn_X5, wc_X5_guest, by decide +kernel, by decide +kernel, by decide +kernel⟩
theorem gc_X5_109 : g_S RX5 109 yX5_isKind cX5_isKind 1 (some .boolean) 1 := ⟨tG_in (List.mem_of_getElem? (i := 865) (by decide +kernel)) rfl, ws_X5_isKind, wn_X5, wc_X5_isKind, by decide +kernel, by decide +kernel, by decide +kernel⟩
theorem gc_X5_113 : g_V RX5 113 yX5_comesIn cX5_comesIn 4 (some .int) 2 := ⟨tG_in (List.mem_of_getElem? (i := 869) (by decide +kernel)) rfl, wi_X5_comesIn, wv_X5_comesIn, wn_X5, wc_X5_comesIn, by decide +kernel, by decide +kernel, by decide +kernel⟩
theorem gc_X5_106 : g_S RX5 106 yX5_guestAt cX5_guestAt 2 (some .int) 2 := ⟨tG_in (List.mem_of_getElem? (i := 873) (by decide +kernel)) rfl, ws_X5_guestAt, wn_X5, wc_X5_guestAt, by decide +kernel, by decide +kernel, by decide +kernel⟩
theorem gc_L_42 : g_V RL 42 yX5_of cX5_of 3 (some .int) 2 := ⟨tG_in (List.mem_of_getElem? (i := 876) (by decide +kernel)) rfl, wi_X5_of, wv_X5_of, wn_X5, wc_X5_of, by decide +kernel, by decide +kernel, by decide +kernel⟩
theorem gc_X5_131 : g_V RX5 131 yX5_isGuest cX5_isGuest 2 (some .boolean) 1 := ⟨tG_in (List.mem_of_getElem? (i := 880) (by decide +kernel)) rfl, wi_X5_isGuest, wv_X5_isGuest, wn_X5, wc_X5_isGuest, by decide +kernel, by decide +kernel, by decide +kernel⟩
theorem gc_X5_134 : g_V RX5 134 yX5_told cX5_told 3 (some .int) 2 := ⟨tG_in (List.mem_of_getElem? (i := 884) (by decide +kernel)) rfl, wi_X5_told, wv_X5_told, wn_X5, wc_X5_told, by decide +kernel, by decide +kernel, by decide +kernel⟩
theorem gc_X5_119 : g_V RX5 119 yX5_needs cX5_needs 4 (some .int) 1 := ⟨tG_in (List.mem_of_getElem? (i := 888) (by decide +kernel)) rfl, wi_X5_needs, wv_X5_needs, wn_X5, wc_X5_needs, by decide +kernel, by decide +kernel, by decide +kernel⟩
theorem gc_X5_116 : g_V RX5 116 yX5_guestIs cX5_guestIs 3 (some .int) 2 := ⟨tG_in (List.mem_of_getElem? (i := 892) (by decide +kernel)) rfl, wi_X5_guestIs, wv_X5_guestIs, wn_X5, wc_X5_guestIs, by decide +kernel, by decide +kernel, by decide +kernel⟩
theorem gc_X5_122 : g_V RX5 122 yX5_steps cX5_steps 2 (some .int) 1 := ⟨tG_in (List.mem_of_getElem? (i := 896) (by decide +kernel)) rfl, wi_X5_steps, wv_X5_steps, wn_X5, wc_X5_steps, by decide +kernel, by decide +kernel, by decide +kernel⟩
theorem gc_X5_125 : g_V RX5 125 yX5_laughs cX5_laughs 2 (some .int) 1 := ⟨tG_in (List.mem_of_getElem? (i := 900) (by decide +kernel)) rfl, wi_X5_laughs, wv_X5_laughs, wn_X5, wc_X5_laughs, by decide +kernel, by decide +kernel, by decide +kernel⟩
theorem gc_X5_128 : g_V RX5 128 yX5_laces cX5_laces 3 (some .int) 1 := ⟨tG_in (List.mem_of_getElem? (i := 904) (by decide +kernel)) rfl, wi_X5_laces, wv_X5_laces, wn_X5, wc_X5_laces, by decide +kernel, by decide +kernel, by decide +kernel⟩
theorem gc_L_47 : g_V RL 47 yX5_change cX5_change 4 (some .int) 3 := ⟨tG_in (List.mem_of_getElem? (i := 908) (by decide +kernel)) rfl, wi_X5_change, wv_X5_change, wn_X5, wc_X5_change, by decide +kernel, by decide +kernel, by decide +kernel⟩
theorem gc_X5_137 : g_S RX5 137 yX5_isField cX5_isField 2 (some .boolean) 2 := ⟨tG_in (List.mem_of_getElem? (i := 912) (by decide +kernel)) rfl, ws_X5_isField, wn_X5, wc_X5_isField, by decide +kernel, by decide +kernel, by decide +kernel⟩
theorem gc_L_51 : g_V RL 51 yX5_reach cX5_reach 3 (some .int) 2 := ⟨tG_in (List.mem_of_getElem? (i := 915) (by decide +kernel)) rfl, wi_X5_reach, wv_X5_reach, wn_X5, wc_X5_reach, by decide +kernel, by decide +kernel, by decide +kernel⟩
theorem gc_X5_141 : g_V RX5 141 yX5_reachOf cX5_reachOf 7 (some .int) 2 := ⟨tG_in (List.mem_of_getElem? (i := 919) (by decide +kernel)) rfl, wi_X5_reachOf, wv_X5_reachOf, wn_X5, wc_X5_reachOf, by decide +kernel, by decide +kernel, by decide +kernel⟩
theorem gc_L_55 : g_V RL 55 yX5_go cX5_go 2 (some .int) 1 := ⟨tG_in (List.mem_of_getElem? (i := 923) (by decide +kernel)) rfl, wi_X5_go, wv_X5_go, wn_X5, wc_X5_go, by decide +kernel, by decide +kernel, by decide +kernel⟩
theorem gc_X5_166 : g_V RX5 166 yX5_hoursGo cX5_hoursGo 3 (none : Option Jvm.ClassFile.FieldType) 1 := ⟨tG_in (List.mem_of_getElem? (i := 929) (by decide +kernel)) rfl, wi_X5_hoursGo, wv_X5_hoursGo, wn_X5, wc_X5_hoursGo, by decide +kernel, by decide +kernel, by decide +kernel⟩
theorem gc_X5_162 : g_V RX5 162 yX5_hour cX5_hour 3 (none : Option Jvm.ClassFile.FieldType) 0 := ⟨tG_in (List.mem_of_getElem? (i := 933) (by decide +kernel)) rfl, wi_X5_hour, wv_X5_hour, wn_X5, wc_X5_hour, by decide +kernel, by decide +kernel, by decide +kernel⟩
theorem gc_X5_150 : g_V RX5 150 yX5_measureNow cX5_measureNow 1 (some .int) 0 := ⟨tG_in (List.mem_of_getElem? (i := 937) (by decide +kernel)) rfl, wi_X5_measureNow, wv_X5_measureNow, wn_X5, wc_X5_measureNow, by decide +kernel, by decide +kernel, by decide +kernel⟩
theorem gc_X5_94 : g_V RX5 94 yX5_placeNow cX5_placeNow 1 (some .int) 0 := ⟨tG_in (List.mem_of_getElem? (i := 941) (by decide +kernel)) rfl, wi_X5_placeNow, wv_X5_placeNow, wn_X5, wc_X5_placeNow, by decide +kernel, by decide +kernel, by decide +kernel⟩
theorem gc_X5_147 : g_V RX5 147 yX5_isIn cX5_isIn 2 (some .boolean) 1 := ⟨tG_in (List.mem_of_getElem? (i := 945) (by decide +kernel)) rfl, wi_X5_isIn, wv_X5_isIn, wn_X5, wc_X5_isIn, by decide +kernel, by decide +kernel, by decide +kernel⟩
theorem gc_X5_153 : g_V RX5 153 yX5_goes cX5_goes 8 (none : Option Jvm.ClassFile.FieldType) 2 := ⟨tG_in (List.mem_of_getElem? (i := 949) (by decide +kernel)) rfl, wi_X5_goes, wv_X5_goes, wn_X5, wc_X5_goes, by decide +kernel, by decide +kernel, by decide +kernel⟩
theorem gc_X5_144 : g_S RX5 144 yJ9_min_7cf53 cJ9_min_7cf53 2 (some .int) 2 := ⟨tG_in (List.mem_of_getElem? (i := 953) (by decide +kernel)) rfl, ws_J9_min_7cf53, wn_J9, wc_J9_min_7cf53, by decide +kernel, by decide +kernel, by decide +kernel⟩
theorem gc_X5_157 : g_V RX5 157 yX5_strains cX5_strains 4 (none : Option Jvm.ClassFile.FieldType) 1 := ⟨tG_in (List.mem_of_getElem? (i := 954) (by decide +kernel)) rfl, wi_X5_strains, wv_X5_strains, wn_X5, wc_X5_strains, by decide +kernel, by decide +kernel, by decide +kernel⟩
theorem gc_L_59 : g_V RL 59 yX5_now cX5_now 2 (some .int) 1 := ⟨tG_in (List.mem_of_getElem? (i := 958) (by decide +kernel)) rfl, wi_X5_now, wv_X5_now, wn_X5, wc_X5_now, by decide +kernel, by decide +kernel, by decide +kernel⟩
theorem gc_X5_169 : g_V RX5 169 yX5_stuckOnes cX5_stuckOnes 3 (some .int) 0 := ⟨tG_in (List.mem_of_getElem? (i := 962) (by decide +kernel)) rfl, wi_X5_stuckOnes, wv_X5_stuckOnes, wn_X5, wc_X5_stuckOnes, by decide +kernel, by decide +kernel, by decide +kernel⟩
theorem gc_X5_172 : g_V RX5 172 yX5_arrived cX5_arrived 3 (some .int) 0 := ⟨tG_in (List.mem_of_getElem? (i := 966) (by decide +kernel)) rfl, wi_X5_arrived, wv_X5_arrived, wn_X5, wc_X5_arrived, by decide +kernel, by decide +kernel, by decide +kernel⟩
theorem gc_X5_175 : g_V RX5 175 yX5_inTheHall cX5_inTheHall 3 (some .int) 0 := ⟨tG_in (List.mem_of_getElem? (i := 970) (by decide +kernel)) rfl, wi_X5_inTheHall, wv_X5_inTheHall, wn_X5, wc_X5_inTheHall, by decide +kernel, by decide +kernel, by decide +kernel⟩
theorem gc_X5_178 : g_V RX5 178 yX5_shutCells cX5_shutCells 3 (some .int) 0 := ⟨tG_in (List.mem_of_getElem? (i := 974) (by decide +kernel)) rfl, wi_X5_shutCells, wv_X5_shutCells, wn_X5, wc_X5_shutCells, by decide +kernel, by decide +kernel, by decide +kernel⟩
theorem gc_L_63 : g_V RL 63 yX5_ahead cX5_ahead 5 (some .int) 3 := ⟨tG_in (List.mem_of_getElem? (i := 978) (by decide +kernel)) rfl, wi_X5_ahead, wv_X5_ahead, wn_X5, wc_X5_ahead, by decide +kernel, by decide +kernel, by decide +kernel⟩
theorem gc_X5_61 : g_S RX5 61 yX5_copyRow cX5_copyRow 3 (none : Option Jvm.ClassFile.FieldType) 2 := ⟨tG_in (List.mem_of_getElem? (i := 982) (by decide +kernel)) rfl, ws_X5_copyRow, wn_X5, wc_X5_copyRow, by decide +kernel, by decide +kernel, by decide +kernel⟩
theorem gc_X5_181 : g_V RX5 181 yX5_putBack cX5_putBack 2 (some .int) 1 := ⟨tG_in (List.mem_of_getElem? (i := 985) (by decide +kernel)) rfl, wi_X5_putBack, wv_X5_putBack, wn_X5, wc_X5_putBack, by decide +kernel, by decide +kernel, by decide +kernel⟩
theorem gc_L_67 : g_V RL 67 yX5_strain cX5_strain 2 (some .int) 1 := ⟨tG_in (List.mem_of_getElem? (i := 989) (by decide +kernel)) rfl, wi_X5_strain, wv_X5_strain, wn_X5, wc_X5_strain, by decide +kernel, by decide +kernel, by decide +kernel⟩
theorem gc_X5_184 : g_V RX5 184 yX5_behind cX5_behind 3 (some .int) 2 := ⟨tG_in (List.mem_of_getElem? (i := 993) (by decide +kernel)) rfl, wi_X5_behind, wv_X5_behind, wn_X5, wc_X5_behind, by decide +kernel, by decide +kernel, by decide +kernel⟩
theorem gc_L_72 : g_V RL 72 yX5_snaps cX5_snaps 1 (some .int) 0 := ⟨tG_in (List.mem_of_getElem? (i := 997) (by decide +kernel)) rfl, wi_X5_snaps, wv_X5_snaps, wn_X5, wc_X5_snaps, by decide +kernel, by decide +kernel, by decide +kernel⟩
theorem gc_X5_187 : g_V RX5 187 yX5_hoursTo cX5_hoursTo 5 (some .int) 3 := ⟨tG_in (List.mem_of_getElem? (i := 1001) (by decide +kernel)) rfl, wi_X5_hoursTo, wv_X5_hoursTo, wn_X5, wc_X5_hoursTo, by decide +kernel, by decide +kernel, by decide +kernel⟩
theorem gc_X5_191 : g_V RX5 191 yX5_orNone cX5_orNone 2 (some .int) 1 := ⟨tG_in (List.mem_of_getElem? (i := 1005) (by decide +kernel)) rfl, wi_X5_orNone, wv_X5_orNone, wn_X5, wc_X5_orNone, by decide +kernel, by decide +kernel, by decide +kernel⟩
theorem gc_L_76 : g_V RL 76 yX5_comes cX5_comes 3 (some .int) 2 := ⟨tG_in (List.mem_of_getElem? (i := 1010) (by decide +kernel)) rfl, wi_X5_comes, wv_X5_comes, wn_X5, wc_X5_comes, by decide +kernel, by decide +kernel, by decide +kernel⟩
theorem gc_L_80 : g_V RL 80 yX5_stuck cX5_stuck 3 (some .int) 2 := ⟨tG_in (List.mem_of_getElem? (i := 1014) (by decide +kernel)) rfl, wi_X5_stuck, wv_X5_stuck, wn_X5, wc_X5_stuck, by decide +kernel, by decide +kernel, by decide +kernel⟩
theorem gc_L_84 : g_V RL 84 yX5_tight cX5_tight 6 (some .int) 2 := ⟨tG_in (List.mem_of_getElem? (i := 1018) (by decide +kernel)) rfl, wi_X5_tight, wv_X5_tight, wn_X5, wc_X5_tight, by decide +kernel, by decide +kernel, by decide +kernel⟩
theorem gc_X5_194 : g_S RX5 194 yX5_isThought cX5_isThought 1 (some .boolean) 1 := ⟨tG_in (List.mem_of_getElem? (i := 1022) (by decide +kernel)) rfl, ws_X5_isThought, wn_X5, wc_X5_isThought, by decide +kernel, by decide +kernel, by decide +kernel⟩
theorem gc_L_88 : g_V RL 88 yX5_measureFor cX5_measureFor 5 (some .int) 2 := ⟨tG_in (List.mem_of_getElem? (i := 1025) (by decide +kernel)) rfl, wi_X5_measureFor, wv_X5_measureFor, wn_X5, wc_X5_measureFor, by decide +kernel, by decide +kernel, by decide +kernel⟩
theorem gc_L_92 : g_V RL 92 yX5_kindFor cX5_kindFor 9 (some .int) 2 := ⟨tG_in (List.mem_of_getElem? (i := 1029) (by decide +kernel)) rfl, wi_X5_kindFor, wv_X5_kindFor, wn_X5, wc_X5_kindFor, by decide +kernel, by decide +kernel, by decide +kernel⟩
theorem gc_L_96 : g_V RL 96 yX5_sizeFor cX5_sizeFor 7 (some .int) 2 := ⟨tG_in (List.mem_of_getElem? (i := 1033) (by decide +kernel)) rfl, wi_X5_sizeFor, wv_X5_sizeFor, wn_X5, wc_X5_sizeFor, by decide +kernel, by decide +kernel, by decide +kernel⟩
theorem gc_L_100 : g_V RL 100 yX5_send cX5_send 4 (some .int) 1 := ⟨tG_in (List.mem_of_getElem? (i := 1037) (by decide +kernel)) rfl, wi_X5_send, wv_X5_send, wn_X5, wc_X5_send, by decide +kernel, by decide +kernel, by decide +kernel⟩
theorem gc_X5_197 : g_S RX5 197 yX5_bits cX5_bits 3 (some .int) 1 := ⟨tG_in (List.mem_of_getElem? (i := 1041) (by decide +kernel)) rfl, ws_X5_bits, wn_X5, wc_X5_bits, by decide +kernel, by decide +kernel, by decide +kernel⟩
theorem gc_X5_200 : g_V RX5 200 yX5_holds cX5_holds 4 (some .boolean) 2 := ⟨tG_in (List.mem_of_getElem? (i := 1044) (by decide +kernel)) rfl, wi_X5_holds, wv_X5_holds, wn_X5, wc_X5_holds, by decide +kernel, by decide +kernel, by decide +kernel⟩
theorem gc_L_104 : g_V RL 104 yX5_fits cX5_fits 8 (some .int) 2 := ⟨tG_in (List.mem_of_getElem? (i := 1048) (by decide +kernel)) rfl, wi_X5_fits, wv_X5_fits, wn_X5, wc_X5_fits, by decide +kernel, by decide +kernel, by decide +kernel⟩
theorem gc_X5_207 : g_V RX5 207 yX5_lacks cX5_lacks 3 (some .int) 2 := ⟨tG_in (List.mem_of_getElem? (i := 1052) (by decide +kernel)) rfl, wi_X5_lacks, wv_X5_lacks, wn_X5, wc_X5_lacks, by decide +kernel, by decide +kernel, by decide +kernel⟩
theorem gc_X5_203 : g_S RX5 203 yX5_isSheet cX5_isSheet 1 (some .boolean) 1 := ⟨tG_in (List.mem_of_getElem? (i := 1056) (by decide +kernel)) rfl, ws_X5_isSheet, wn_X5, wc_X5_isSheet, by decide +kernel, by decide +kernel, by decide +kernel⟩
theorem gc_X5_211 : g_V RX5 211 yX5_isSo cX5_isSo 6 (some .boolean) 2 := ⟨tG_in (List.mem_of_getElem? (i := 1060) (by decide +kernel)) rfl, wi_X5_isSo, wv_X5_isSo, wn_X5, wc_X5_isSo, by decide +kernel, by decide +kernel, by decide +kernel⟩
theorem gc_L_108 : g_V RL 108 yX5_kinds cX5_kinds 8 (some .int) 2 := ⟨tG_in (List.mem_of_getElem? (i := 1064) (by decide +kernel)) rfl, wi_X5_kinds, wv_X5_kinds, wn_X5, wc_X5_kinds, by decide +kernel, by decide +kernel, by decide +kernel⟩
theorem gc_L_112 : g_V RL 112 yX5_party cX5_party 5 (some .int) 1 := ⟨tG_in (List.mem_of_getElem? (i := 1068) (by decide +kernel)) rfl, wi_X5_party, wv_X5_party, wn_X5, wc_X5_party, by decide +kernel, by decide +kernel, by decide +kernel⟩
theorem gc_X5_215 : g_V RX5 215 yX5_drawn cX5_drawn 1 (some .int) 0 := ⟨tG_in (List.mem_of_getElem? (i := 1072) (by decide +kernel)) rfl, wi_X5_drawn, wv_X5_drawn, wn_X5, wc_X5_drawn, by decide +kernel, by decide +kernel, by decide +kernel⟩
theorem gc_L_117 : g_V RL 117 yX5_odds cX5_odds 11 (some .long) 3 := ⟨tG_in (List.mem_of_getElem? (i := 1077) (by decide +kernel)) rfl, wi_X5_odds, wv_X5_odds, wn_X5, wc_X5_odds, by decide +kernel, by decide +kernel, by decide +kernel⟩
theorem gc_L_121 : g_V RL 121 yX5_seed cX5_seed 2 (some .int) 1 := ⟨tG_in (List.mem_of_getElem? (i := 1081) (by decide +kernel)) rfl, wi_X5_seed, wv_X5_seed, wn_X5, wc_X5_seed, by decide +kernel, by decide +kernel, by decide +kernel⟩
theorem gc_L_125 : g_V RL 125 yX5_feed cX5_feed 4 (some .int) 2 := ⟨tG_in (List.mem_of_getElem? (i := 1085) (by decide +kernel)) rfl, wi_X5_feed, wv_X5_feed, wn_X5, wc_X5_feed, by decide +kernel, by decide +kernel, by decide +kernel⟩
theorem gc_L_129 : g_V RL 129 yX5_wipe cX5_wipe 2 (some .int) 0 := ⟨tG_in (List.mem_of_getElem? (i := 1089) (by decide +kernel)) rfl, wi_X5_wipe, wv_X5_wipe, wn_X5, wc_X5_wipe, by decide +kernel, by decide +kernel, by decide +kernel⟩
theorem gc_L_133 : g_V RL 133 yX5_text cX5_text 2 (some .int) 0 := ⟨tG_in (List.mem_of_getElem? (i := 1093) (by decide +kernel)) rfl, wi_X5_text, wv_X5_text, wn_X5, wc_X5_text, by decide +kernel, by decide +kernel, by decide +kernel⟩
theorem gc_X5_248 : g_V RX5 248 yX5_token cX5_token 2 (none : Option Jvm.ClassFile.FieldType) 0 := ⟨tG_in (List.mem_of_getElem? (i := 1097) (by decide +kernel)) rfl, wi_X5_token, wv_X5_token, wn_X5, wc_X5_token, by decide +kernel, by decide +kernel, by decide +kernel⟩
theorem gc_X5_228 : g_V RX5 228 yX5_byteAt cX5_byteAt 2 (some .int) 1 := ⟨tG_in (List.mem_of_getElem? (i := 1101) (by decide +kernel)) rfl, wi_X5_byteAt, wv_X5_byteAt, wn_X5, wc_X5_byteAt, by decide +kernel, by decide +kernel, by decide +kernel⟩
theorem gc_X5_290 : g_V RX5 290 yX5_readItem cX5_readItem 3 (none : Option Jvm.ClassFile.FieldType) 0 := ⟨tG_in (List.mem_of_getElem? (i := 1105) (by decide +kernel)) rfl, wi_X5_readItem, wv_X5_readItem, wn_X5, wc_X5_readItem, by decide +kernel, by decide +kernel, by decide +kernel⟩
theorem gc_X5_258 : g_V RX5 258 yX5_isWord cX5_isWord 4 (some .boolean) 1 := ⟨tG_in (List.mem_of_getElem? (i := 1109) (by decide +kernel)) rfl, wi_X5_isWord, wv_X5_isWord, wn_X5, wc_X5_isWord, by decide +kernel, by decide +kernel, by decide +kernel⟩
theorem gc_X5_237 : g_V RX5 237 yJ0_length_8abf5 cJ0_length_8abf5 1 (some .int) 0 := ⟨tG_in (List.mem_of_getElem? (i := 1113) (by decide +kernel)) rfl, wi_J0_length_8abf5, wv_J0_length_8abf5, wn_J0, wc_J0_length_8abf5, by decide +kernel, by decide +kernel, by decide +kernel⟩
theorem gc_X5_240 : g_V RX5 240 yJ0_charAt_5068e cJ0_charAt_5068e 2 (some .char) 1 := ⟨tG_in (List.mem_of_getElem? (i := 1114) (by decide +kernel)) rfl, wi_J0_charAt_5068e, wv_J0_charAt_5068e, wn_J0, wc_J0_charAt_5068e, by decide +kernel, by decide +kernel, by decide +kernel⟩
theorem gc_X5_281 : g_V RX5 281 yX5_readGuest cX5_readGuest 4 (none : Option Jvm.ClassFile.FieldType) 1 := ⟨tG_in (List.mem_of_getElem? (i := 1115) (by decide +kernel)) rfl, wi_X5_readGuest, wv_X5_readGuest, wn_X5, wc_X5_readGuest, by decide +kernel, by decide +kernel, by decide +kernel⟩
theorem gc_X5_251 : g_V RX5 251 yX5_must cX5_must 2 (none : Option Jvm.ClassFile.FieldType) 1 := ⟨tG_in (List.mem_of_getElem? (i := 1119) (by decide +kernel)) rfl, wi_X5_must, wv_X5_must, wn_X5, wc_X5_must, by decide +kernel, by decide +kernel, by decide +kernel⟩
theorem gc_X5_267 : g_V RX5 267 yX5_takesWord cX5_takesWord 3 (some .boolean) 1 := ⟨tG_in (List.mem_of_getElem? (i := 1124) (by decide +kernel)) rfl, wi_X5_takesWord, wv_X5_takesWord, wn_X5, wc_X5_takesWord, by decide +kernel, by decide +kernel, by decide +kernel⟩
theorem gc_X5_270 : g_V RX5 270 yX5_number cX5_number 4 (some .int) 2 := ⟨tG_in (List.mem_of_getElem? (i := 1128) (by decide +kernel)) rfl, wi_X5_number, wv_X5_number, wn_X5, wc_X5_number, by decide +kernel, by decide +kernel, by decide +kernel⟩
theorem gc_X5_277 : g_V RX5 277 yX5_addItem cX5_addItem 6 (none : Option Jvm.ClassFile.FieldType) 4 := ⟨tG_in (List.mem_of_getElem? (i := 1134) (by decide +kernel)) rfl, wi_X5_addItem, wv_X5_addItem, wn_X5, wc_X5_addItem, by decide +kernel, by decide +kernel, by decide +kernel⟩
theorem gc_X5_293 : g_V RX5 293 yX5_isToldSo cX5_isToldSo 5 (none : Option Jvm.ClassFile.FieldType) 1 := ⟨tG_in (List.mem_of_getElem? (i := 1141) (by decide +kernel)) rfl, wi_X5_isToldSo, wv_X5_isToldSo, wn_X5, wc_X5_isToldSo, by decide +kernel, by decide +kernel, by decide +kernel⟩
theorem gc_L_137 : g_V RL 137 yX5_hold cX5_hold 3 (some .int) 2 := ⟨tG_in (List.mem_of_getElem? (i := 1145) (by decide +kernel)) rfl, wi_X5_hold, wv_X5_hold, wn_X5, wc_X5_hold, by decide +kernel, by decide +kernel, by decide +kernel⟩
theorem gc_X5_296 : g_S RX5 296 yX5_isSpot cX5_isSpot 1 (some .boolean) 1 := ⟨tG_in (List.mem_of_getElem? (i := 1149) (by decide +kernel)) rfl, ws_X5_isSpot, wn_X5, wc_X5_isSpot, by decide +kernel, by decide +kernel, by decide +kernel⟩
theorem gc_L_141 : g_V RL 141 yX5_as cX5_as 4 (some .int) 2 := ⟨tG_in (List.mem_of_getElem? (i := 1152) (by decide +kernel)) rfl, wi_X5_as, wv_X5_as, wn_X5, wc_X5_as, by decide +kernel, by decide +kernel, by decide +kernel⟩
theorem gc_X5_299 : g_S RX5 299 yX5_isUnder cX5_isUnder 3 (some .boolean) 2 := ⟨tG_in (List.mem_of_getElem? (i := 1156) (by decide +kernel)) rfl, ws_X5_isUnder, wn_X5, wc_X5_isUnder, by decide +kernel, by decide +kernel, by decide +kernel⟩
theorem gc_X5_307 : g_S RX5 307 yX5_above cX5_above 1 (some .int) 1 := ⟨tG_in (List.mem_of_getElem? (i := 1159) (by decide +kernel)) rfl, ws_X5_above, wn_X5, wc_X5_above, by decide +kernel, by decide +kernel, by decide +kernel⟩
theorem gc_L_145 : g_V RL 145 yX5_sheet cX5_sheet 5 (some .int) 3 := ⟨tG_in (List.mem_of_getElem? (i := 1163) (by decide +kernel)) rfl, wi_X5_sheet, wv_X5_sheet, wn_X5, wc_X5_sheet, by decide +kernel, by decide +kernel, by decide +kernel⟩
theorem gc_L_149 : g_V RL 149 yX5_write cX5_write 4 (some .int) 3 := ⟨tG_in (List.mem_of_getElem? (i := 1168) (by decide +kernel)) rfl, wi_X5_write, wv_X5_write, wn_X5, wc_X5_write, by decide +kernel, by decide +kernel, by decide +kernel⟩
theorem gc_X5_304 : g_S RX5 304 yX5_cutTo cX5_cutTo 2 (some .int) 2 := ⟨tG_in (List.mem_of_getElem? (i := 1172) (by decide +kernel)) rfl, ws_X5_cutTo, wn_X5, wc_X5_cutTo, by decide +kernel, by decide +kernel, by decide +kernel⟩
theorem gc_L_154 : g_V RL 154 yX5_copy cX5_copy 7 (some .int) 5 := ⟨tG_in (List.mem_of_getElem? (i := 1175) (by decide +kernel)) rfl, wi_X5_copy, wv_X5_copy, wn_X5, wc_X5_copy, by decide +kernel, by decide +kernel, by decide +kernel⟩
theorem gc_L_158 : g_V RL 158 yX5_load cX5_load 3 (some .int) 1 := ⟨tG_in (List.mem_of_getElem? (i := 1179) (by decide +kernel)) rfl, wi_X5_load, wv_X5_load, wn_X5, wc_X5_load, by decide +kernel, by decide +kernel, by decide +kernel⟩
theorem gc_L_162 : g_V RL 162 yX5_judge cX5_judge 3 (some .int) 1 := ⟨tG_in (List.mem_of_getElem? (i := 1183) (by decide +kernel)) rfl, wi_X5_judge, wv_X5_judge, wn_X5, wc_X5_judge, by decide +kernel, by decide +kernel, by decide +kernel⟩
theorem gc_L_166 : g_V RL 166 yX5_image cX5_image 1 (some .int) 0 := ⟨tG_in (List.mem_of_getElem? (i := 1187) (by decide +kernel)) rfl, wi_X5_image, wv_X5_image, wn_X5, wc_X5_image, by decide +kernel, by decide +kernel, by decide +kernel⟩
theorem gc_L_170 : g_V RL 170 yX5_undo cX5_undo 1 (some .int) 0 := ⟨tG_in (List.mem_of_getElem? (i := 1191) (by decide +kernel)) rfl, wi_X5_undo, wv_X5_undo, wn_X5, wc_X5_undo, by decide +kernel, by decide +kernel, by decide +kernel⟩
theorem gc_L_174 : g_V RL 174 yX5_tear cX5_tear 2 (some .int) 0 := ⟨tG_in (List.mem_of_getElem? (i := 1195) (by decide +kernel)) rfl, wi_X5_tear, wv_X5_tear, wn_X5, wc_X5_tear, by decide +kernel, by decide +kernel, by decide +kernel⟩
theorem gc_L_178 : g_V RL 178 yX5_count cX5_count 4 (some .int) 1 := ⟨tG_in (List.mem_of_getElem? (i := 1199) (by decide +kernel)) rfl, wi_X5_count, wv_X5_count, wn_X5, wc_X5_count, by decide +kernel, by decide +kernel, by decide +kernel⟩
theorem gc_L_182 : g_V RL 182 yX5_status cX5_status 2 (some .int) 1 := ⟨tG_in (List.mem_of_getElem? (i := 1203) (by decide +kernel)) rfl, wi_X5_status, wv_X5_status, wn_X5, wc_X5_status, by decide +kernel, by decide +kernel, by decide +kernel⟩
theorem wAC_n : Cond.native arraycopyName ∈ tG := tG_in (List.mem_of_getElem? (i := 405) (by decide +kernel)) rfl
theorem wAC_s : Cond.static arraycopyName ∈ tG := tG_in (List.mem_of_getElem? (i := 404) (by decide +kernel)) rfl
theorem wAC_i : Cond.initialized "java/lang/System" ∈ tG := tG_in (List.mem_of_getElem? (i := 67) (by decide +kernel)) rfl
theorem wM_i : Cond.initialized "java/lang/Math" ∈ tG := tG_in (List.mem_of_getElem? (i := 65) (by decide +kernel)) rfl
theorem wM_s_max : Cond.static Lib.Math.max.name ∈ tG := tG_in (List.mem_of_getElem? (i := 269) (by decide +kernel)) rfl
theorem wM_c_max : Cond.code Lib.Math.max.name Lib.Math.max.code 2 (some .int) ∈ tG := tG_in (List.mem_of_getElem? (i := 270) (by decide +kernel)) rfl
theorem wM_s_min : Cond.static Lib.Math.min.name ∈ tG := tG_in (List.mem_of_getElem? (i := 361) (by decide +kernel)) rfl
theorem wM_c_min : Cond.code Lib.Math.min.name Lib.Math.min.code 2 (some .int) ∈ tG := tG_in (List.mem_of_getElem? (i := 362) (by decide +kernel)) rfl
theorem gm_X4_1 : Cond.methodLink RX4 1 Lib.objectInit ∈ tG := tG_in (List.mem_of_getElem? (i := 78) (by decide +kernel)) rfl
theorem gm_X0_1 : Cond.methodLink RX0 1 Lib.objectInit ∈ tG := tG_in (List.mem_of_getElem? (i := 86) (by decide +kernel)) rfl
theorem gm_X2_1 : Cond.methodLink RX2 1 Lib.objectInit ∈ tG := tG_in (List.mem_of_getElem? (i := 161) (by decide +kernel)) rfl
theorem gm_X3_1 : Cond.methodLink RX3 1 Lib.objectInit ∈ tG := tG_in (List.mem_of_getElem? (i := 182) (by decide +kernel)) rfl
theorem gm_X0_82 : Cond.methodLink RX0 82 Lib.Math.max.name ∈ tG := tG_in (List.mem_of_getElem? (i := 268) (by decide +kernel)) rfl
theorem gm_X1_7 : Cond.methodLink RX1 7 Lib.Math.max.name ∈ tG := tG_in (List.mem_of_getElem? (i := 302) (by decide +kernel)) rfl
theorem gm_X0_116 : Cond.methodLink RX0 116 Lib.Math.min.name ∈ tG := tG_in (List.mem_of_getElem? (i := 360) (by decide +kernel)) rfl
theorem gm_X0_62 : Cond.methodLink RX0 62 arraycopyName ∈ tG := tG_in (List.mem_of_getElem? (i := 403) (by decide +kernel)) rfl
theorem gm_X3_138 : Cond.methodLink RX3 138 Lib.Math.min.name ∈ tG := tG_in (List.mem_of_getElem? (i := 554) (by decide +kernel)) rfl
theorem gm_X4_266 : Cond.methodLink RX4 266 arraycopyName ∈ tG := tG_in (List.mem_of_getElem? (i := 695) (by decide +kernel)) rfl
theorem gm_X4_272 : Cond.methodLink RX4 272 Lib.Math.min.name ∈ tG := tG_in (List.mem_of_getElem? (i := 700) (by decide +kernel)) rfl
theorem gm_X5_1 : Cond.methodLink RX5 1 Lib.objectInit ∈ tG := tG_in (List.mem_of_getElem? (i := 738) (by decide +kernel)) rfl
theorem gm_X5_98 : Cond.methodLink RX5 98 Lib.Math.max.name ∈ tG := tG_in (List.mem_of_getElem? (i := 860) (by decide +kernel)) rfl
theorem gm_X5_144 : Cond.methodLink RX5 144 Lib.Math.min.name ∈ tG := tG_in (List.mem_of_getElem? (i := 953) (by decide +kernel)) rfl
theorem wO_i : Cond.instanceMethod Lib.objectInit ∈ tG := tG_in (List.mem_of_getElem? (i := 79) (by decide +kernel)) rfl
theorem wO_c : Cond.code Lib.objectInit ⟨#[0xb1]⟩ 1 none ∈ tG := tG_in (List.mem_of_getElem? (i := 80) (by decide +kernel)) rfl
theorem wA_int : Cond.arrayClass .int ∈ tG := tG_in (List.mem_of_getElem? (i := 155) (by decide +kernel)) rfl
theorem kl_L_7 : Cond.classLink RL 7 "LacedHouse" ∈ tG := tG_in (List.mem_of_getElem? (i := 73) (by decide +kernel)) rfl
theorem wz_X4 : Cond.instantiable RX4 7 ∈ tG := tG_in (List.mem_of_getElem? (i := 74) (by decide +kernel)) rfl
theorem kl_X4_7 : Cond.classLink RX4 7 "LacedHouse$House" ∈ tG := tG_in (List.mem_of_getElem? (i := 81) (by decide +kernel)) rfl
theorem wz_X0 : Cond.instantiable RX0 15 ∈ tG := tG_in (List.mem_of_getElem? (i := 82) (by decide +kernel)) rfl
theorem kl_X4_26 : Cond.classLink RX4 26 "LacedHouse$Sheets" ∈ tG := tG_in (List.mem_of_getElem? (i := 156) (by decide +kernel)) rfl
theorem wz_X2 : Cond.instantiable RX2 3 ∈ tG := tG_in (List.mem_of_getElem? (i := 157) (by decide +kernel)) rfl
theorem kl_X2_9 : Cond.classLink RX2 9 "[[I" ∈ tG := tG_in (List.mem_of_getElem? (i := 162) (by decide +kernel)) rfl
theorem kl_X4_33 : Cond.classLink RX4 33 "LacedHouse$Tape" ∈ tG := tG_in (List.mem_of_getElem? (i := 177) (by decide +kernel)) rfl
theorem wz_X3 : Cond.instantiable RX3 6 ∈ tG := tG_in (List.mem_of_getElem? (i := 178) (by decide +kernel)) rfl
theorem kl_L_10 : Cond.classLink RL 10 "LacedHouseModel" ∈ tG := tG_in (List.mem_of_getElem? (i := 733) (by decide +kernel)) rfl
theorem wz_X5 : Cond.instantiable RX5 20 ∈ tG := tG_in (List.mem_of_getElem? (i := 734) (by decide +kernel)) rfl
theorem kl_X5_25 : Cond.classLink RX5 25 "java/lang/String" ∈ tG := tG_in (List.mem_of_getElem? (i := 739) (by decide +kernel)) rfl
theorem gn_X4_28 : g_N RX4 28 yX2_init "LacedHouse" cX2_init 1 0 := ⟨by decide +kernel, wi_X2_init, wn_X2, wc_X2_init, by decide +kernel, by decide +kernel, rfl, by decide +kernel⟩
theorem gn_X4_35 : g_N RX4 35 yX3_init "LacedHouse" cX3_init 1 0 := ⟨by decide +kernel, wi_X3_init, wn_X3, wc_X3_init, by decide +kernel, by decide +kernel, rfl, by decide +kernel⟩
end
section
/-! ===== the abstract machine: a memory of numbered cells, states of a method, rows ===== -/
abbrev aC : Type := (Nat × (Nat → Int32)) ⊕ ((Nat × Nat × (Nat → Option Nat)) ⊕ (Nat × List Value))
abbrev aI (n : Nat) (f : Nat → Int32) : aC := .inl (n, f)
abbrev aR (t n : Nat) (f : Nat → Option Nat) : aC := .inr (.inl (t, n, f))
abbrev aO (ci : Nat) (fs : List Value) : aC := .inr (.inr (ci, fs))
/-- D, the first address, the array classes, the addresses of what lay there before (1000 and on) -/
abbrev aG : Type := va_G × Nat × (Nat → ClassId) × (Nat → Nat)
abbrev aM : Type := MethodName × ByteArray × Nat × Option FieldType × Room × Nat × Nat
def a_ad (Γ : aG) (i : Nat) : Nat := if i < 1000 then Γ.2.1 + i else Γ.2.2.2 i
def a_v (Γ : aG) (v : Value) : Value := match v with
  | .ref i => .ref (a_ad Γ i)
  | w => w
def a_e (Γ : aG) (x : aC) : va_E := match x with
  | .inl (n, f) => .inl (Γ.2.2.1 0, n, .inl f)
  | .inr (.inl (t, n, f)) => .inl (Γ.2.2.1 t, n, .inr (.inr (.inr (.inr (fun j => (f j).map (a_ad Γ))))))
  | .inr (.inr (ci, fs)) => .inr (ci, fs.map (a_v Γ))
def a_w (Γ : aG) (n : Nat) (M : Nat → aC) : va_W := (List.range n).map (fun i => (Γ.2.1 + i, a_e Γ (M i)))
def a_A (Γ : aG) : Nat → Prop := fun q => Γ.2.1 ≤ q
def a_up (M : Nat → aC) (i : Nat) (x : aC) : Nat → aC := fun j => if j = i then x else M j
abbrev a_ty (Γ : aG) : List (ClassId × FieldType) := [(Γ.2.2.1 0, .int), (Γ.2.2.1 1, .array .int), (Γ.2.2.1 2, .object "java/lang/String")]
abbrev a_L (Γ : aG) (L : List (Nat × Value)) : List (Nat × Value) := L.map (fun q => (q.1, a_v Γ q.2))
theorem a_v_cat (Γ : aG) (v : Value) : (a_v Γ v).category = v.category := by cases v <;> rfl
theorem a_ad_lt {Γ : aG} {i : Nat} (h : i < 1000) : a_ad Γ i = Γ.2.1 + i := if_pos h
theorem a_w_at {Γ : aG} {n i : Nat} {M : Nat → aC} (h : i < n) : (a_w Γ n M)[i]? = some (Γ.2.1 + i, a_e Γ (M i)) := by
  unfold a_w
  rw [List.getElem?_map, List.getElem?_range h]
  rfl
theorem a_w_of {Γ : aG} {n k : Nat} {M : Nat → aC} {q : Nat × va_E} (h : (a_w Γ n M)[k]? = some q) : k < n ∧ q = (Γ.2.1 + k, a_e Γ (M k)) := by
  have hk : k < n := by
    have := (List.getElem?_eq_some_iff.mp h).1
    simpa [a_w] using this
  rw [a_w_at hk] at h
  exact ⟨hk, (Option.some.inj h).symm⟩
theorem a_w_D {Γ : aG} {n : Nat} {M : Nat → aC} : va_D (a_A Γ) (a_w Γ n M) := by
  refine ⟨fun i j p q hi hj h => ?_, fun k q hk => ?_⟩
  · obtain ⟨-, rfl⟩ := a_w_of hi
    obtain ⟨-, rfl⟩ := a_w_of hj
    exact Nat.add_left_cancel h
  · obtain ⟨-, rfl⟩ := a_w_of hk
    exact Nat.le_add_right _ _
theorem a_w_set {Γ : aG} {n i : Nat} {M : Nat → aC} {x : aC} : (a_w Γ n M).set i (Γ.2.1 + i, a_e Γ x) = a_w Γ n (a_up M i x) := by
  apply List.ext_getElem?
  intro k
  by_cases hk : k < n
  · rw [a_w_at hk]
    by_cases e : k = i
    · subst e
      rw [List.getElem?_set_self (by simpa [a_w] using hk)]
      simp [a_up]
    · rw [List.getElem?_set_ne (Ne.symm e), a_w_at hk]
      simp [a_up, e]
  · rw [List.getElem?_eq_none (by simpa [a_w] using Nat.not_lt.mp hk), List.getElem?_eq_none (by simpa [a_w] using Nat.not_lt.mp hk)]
theorem a_w_push {Γ : aG} {n : Nat} {M : Nat → aC} {x : aC} : a_w Γ n M ++ [(Γ.2.1 + n, a_e Γ x)] = a_w Γ (n + 1) (a_up M n x) := by
  unfold a_w
  rw [List.range_succ, List.map_append]
  congr 1
  · apply List.map_congr_left
    intro a ha
    have := List.mem_range.mp ha
    simp [a_up, Nat.ne_of_lt this]
  · simp [a_up]
/-! statics and strings: what lay there before -/
abbrev a_sA : List (String × String × List Int32) := [("LacedHouse", "GREATEST_SETTING", [999, 9999, 1]), ("LacedHouse", "LEAST_TRAIT", [0, 0, 1, 0, 0, 0]), ("LacedHouse", "GREATEST_TRAIT", [6, 15, 40, 15, 9999, 1]), ("LacedHouse$Kinds", "ABOVE", [-1, 0, 0, 2, 3, 0, 1])]
def a_sa (k : Nat) : String × String × List Int32 := a_sA.getD k ("", "", [])
abbrev a_sS : List (String × Nat × String × List Int32) := [("LacedHouse$Tape", 110, "cook", [99, 111, 111, 107]), ("LacedHouse$Tape", 112, "boy", [98, 111, 121]), ("LacedHouse$Tape", 114, "maid", [109, 97, 105, 100]), ("LacedHouse$Tape", 116, "nurse", [110, 117, 114, 115, 101]), ("LacedHouse$Tape", 118, "dog", [100, 111, 103]), ("LacedHouse$Tape", 120, "explorer", [101, 120, 112, 108, 111, 114, 101, 114]), ("LacedHouse$Tape", 122, "guest", [103, 117, 101, 115, 116]), ("LacedHouse$Tape", 85, "at", [97, 116]), ("LacedHouse$Tape", 91, "size", [115, 105, 122, 101]), ("LacedHouse$Tape", 99, "to", [116, 111]), ("LacedHouse$Tape", 48, "cell", [99, 101, 108, 108]), ("LacedHouse$Tape", 63, "measure", [109, 101, 97, 115, 117, 114, 101]), ("LacedHouse$Tape", 68, "cord", [99, 111, 114, 100]), ("LacedHouseModel", 27, "guest", [103, 117, 101, 115, 116]), ("LacedHouseModel", 29, "cook", [99, 111, 111, 107]), ("LacedHouseModel", 31, "boy", [98, 111, 121]), ("LacedHouseModel", 33, "maid", [109, 97, 105, 100]), ("LacedHouseModel", 35, "nurse", [110, 117, 114, 115, 101]), ("LacedHouseModel", 37, "dog", [100, 111, 103]), ("LacedHouseModel", 39, "explorer", [101, 120, 112, 108, 111, 114, 101, 114]), ("LacedHouseModel", 265, "at", [97, 116]), ("LacedHouseModel", 273, "size", [115, 105, 122, 101]), ("LacedHouseModel", 275, "to", [116, 111]), ("LacedHouseModel", 284, "cell", [99, 101, 108, 108]), ("LacedHouseModel", 286, "measure", [109, 101, 97, 115, 117, 114, 101]), ("LacedHouseModel", 288, "cord", [99, 111, 114, 100])]
def a_ss (k : Nat) : String × Nat × String × List Int32 := a_sS.getD k ("", 0, "", [])
/-- what the method's start gives of what lay there before -/
def a_S (Γ : aG) (U : State) : Prop :=
  (∀ k : Nat, k < 4 → va_Z (a_sa k).1 (a_sa k).2.1 "[I" (.ref (Γ.2.2.2 (1000 + k))) (a_A Γ) U U.heap ∧ va_T .int (Γ.2.2.2 (1000 + k)) (a_sa k).2.2.length (fun j => .int ((a_sa k).2.2.getD j 0)) (a_A Γ) U U.heap) ∧
  (∀ k : Nat, k < 26 → vk_R (a_ss k).1 (a_ss k).2.1 (a_ss k).2.2.1 (Γ.2.2.2 (2000 + k)) U ∧ va_O "java/lang/String" (Γ.2.2.2 (2000 + k)) (a_A Γ) U U.heap ∧ va_OF "java/lang/String" "coder" "B" (.int 0) (Γ.2.2.2 (2000 + k)) (a_A Γ) U U.heap ∧ va_OF "java/lang/String" "value" "[B" (.ref (Γ.2.2.2 (3000 + k))) (Γ.2.2.2 (2000 + k)) (a_A Γ) U U.heap ∧ va_T .byte (Γ.2.2.2 (3000 + k)) (a_ss k).2.2.2.length (fun j => .int ((a_ss k).2.2.2.getD j 0)) (a_A Γ) U U.heap) ∧
  va_Z "java/lang/String" "COMPACT_STRINGS" "Z" (.int 1) (a_A Γ) U U.heap ∧
  (va_Z "jdk/internal/util/Preconditions" "SIOOBE_FORMATTER" "Ljava/util/function/BiFunction;" .null (a_A Γ) U U.heap ∨ va_Z "jdk/internal/util/Preconditions" "SIOOBE_FORMATTER" "Ljava/util/function/BiFunction;" (.ref (Γ.2.2.2 4000)) (a_A Γ) U U.heap) ∧
  (∀ w ∈ a_nw, va_Nw w U) ∧ va_AO "java/lang/String" U ∧ (Cond.arrayOver (.array .int)).before #[] U = true ∧ va_K Γ.1 vwCl (a_ty Γ) U ∧ Γ.2.1 ≤ U.heap.size
theorem a_fi {v v' : Vm} (h : v.Alike v') (f : Class → Bool) (hf : ∀ k : Class, f k.bare = f k) : v'.classes.findIdx? f = v.classes.findIdx? f := by
  have e : ∀ z : Vm, z.bare.classes.findIdx? f = z.classes.findIdx? f := fun z => by
    simp only [Vm.bare, Array.findIdx?_map]
    congr 1
    funext k
    exact hf k
  rw [← e v', ← e v, h.bare_eq]
theorem a_AO {s U : State} (h : s.vm.Alike U.vm) (ty : FieldType) : (Cond.arrayOver ty).before #[] U = (Cond.arrayOver ty).before #[] s := by
  simp only [Cond.before, Cond.holds, Cond.value, h.findClass]
  congr 1
  congr 1
  funext comp
  rw [a_fi h _ (fun k => rfl)]
  congr 1
  funext c
  exact h.class_map _ (fun k r _ _ => rfl) c
theorem a_S.same {Γ : aG} {u U : State} (hv : U.vm = u.vm) (hh : U.heap = u.heap) (h : a_S Γ u) : a_S Γ U := by
  have ha : u.vm.Alike U.vm := by rw [hv]; exact Vm.Alike.refl _
  obtain ⟨h1, h2, h3, h4, h5, h6, h7, h8, h9⟩ := h
  unfold a_S
  rw [hh]
  refine ⟨fun k hk => ⟨(h1 k hk).1.moved ha, (h1 k hk).2.moved ha⟩, fun k hk => ⟨vk_R.same hv (h2 k hk).1, va_O.moved ha (h2 k hk).2.1, va_OF.moved ha (h2 k hk).2.2.1, va_OF.moved ha (h2 k hk).2.2.2.1, va_T.moved ha (h2 k hk).2.2.2.2⟩, h3.moved ha, h4.imp (va_Z.moved ha) (va_Z.moved ha), fun w hw => ?_, ?_, ?_, va_K.moved ha h8, h9⟩
  · have hc : w = Cond.methodLinkNest "LacedHouse" 28 ⟨"LacedHouse$Sheets", "<init>", "()V"⟩ "LacedHouse" ∨ w = Cond.methodLinkNest "LacedHouse" 35 ⟨"LacedHouse$Tape", "<init>", "()V"⟩ "LacedHouse" ∨ w = Cond.fieldLinkNest "LacedHouse$Tape" 70 "LacedHouse" "GREATEST_SETTING" "[I" "LacedHouse" := by simpa [a_nw] using hw
    refine va_Nw.same ?_ hv.symm (h5 w hw)
    rcases hc with rfl | rfl | rfl <;> rfl
  · exact va_AO.moved ha h6
  · exact (a_AO ha _).trans h7
theorem a_S.next {Γ : aG} {s U : State} {H : Heap} {locs : List Loc} (hW : s.WarmedH U.vm) (hU : U.heap = H) (hS : va_S (a_A Γ) s.heap H locs) (h : a_S Γ s) : a_S Γ U := by
  have ha : s.vm.Alike U.vm := hW.alike
  have hq : ∀ a : Nat, a < s.heap.size → ¬ a_A Γ a → U.heap[a]? = s.heap[a]? := fun a g1 g2 => by rw [hU]; exact hS.2.1 a g1 g2
  obtain ⟨h1, h2, h3, h4, h5, h6, h7, h8, h9⟩ := h
  refine ⟨fun k hk => ⟨((h1 k hk).1.kept hq).moved ha, ((h1 k hk).2.kept hq).moved ha⟩, fun k hk => ⟨vk_R.warm hW (h2 k hk).1, va_O.moved ha ((h2 k hk).2.1.kept hq), va_OF.moved ha ((h2 k hk).2.2.1.kept hq), va_OF.moved ha ((h2 k hk).2.2.2.1.kept hq), va_T.moved ha ((h2 k hk).2.2.2.2.kept hq)⟩, (h3.kept hq).moved ha, h4.imp (fun z => (z.kept hq).moved ha) (fun z => (z.kept hq).moved ha), fun w hw => ?_, ?_, ?_, va_K.moved ha h8, by rw [hU]; exact Nat.le_trans h9 hS.1⟩
  · have hc : w = Cond.methodLinkNest "LacedHouse" 28 ⟨"LacedHouse$Sheets", "<init>", "()V"⟩ "LacedHouse" ∨ w = Cond.methodLinkNest "LacedHouse" 35 ⟨"LacedHouse$Tape", "<init>", "()V"⟩ "LacedHouse" ∨ w = Cond.fieldLinkNest "LacedHouse$Tape" 70 "LacedHouse" "GREATEST_SETTING" "[I" "LacedHouse" := by simpa [a_nw] using hw
    have h0 := h5 w hw
    rcases hc with rfl | rfl | rfl
    · exact va_Nw.warmM hW h0
    · exact va_Nw.warmM hW h0
    · exact va_Nw.warmF hW h0
  · exact va_AO.moved ha h6
  · exact (a_AO ha _).trans h7
/-! a method's state -/
def a_X (Γ : aG) (μ : aM) (p : Program) (s : State) (m : MethodId) (args : Array Value) (meth : Method) (c : Code) : Prop :=
  p.tables.exec = Jvm.exec ∧ c.code = μ.2.1 ∧ meth.sig.returnType = μ.2.2.2.1 ∧ c.maxLocals = μ.2.2.1 ∧ s.vm.findClass μ.1.cls = some m.cls ∧ (∀ w ∈ tG, w.before args s = true) ∧ meth.locks = false ∧ meth.name = μ.1.name ∧ a_S Γ s
def a_W (Γ : aG) (s : State) (n k1 : Nat) (M : Nat → aC) (H : Heap) (locs : List Loc) : Prop :=
  va_P Γ.1 vwCl (a_w Γ n M) H ∧ s.heap.size + k1 = Γ.2.1 + n ∧ va_S (a_A Γ) s.heap H locs ∧ n ≤ 1000
def a_Q (Γ : aG) (r : Option Value) (n : Nat) (M : Nat → aC) : Array Value → State → Outcome → State → Prop := fun _ st oc t =>
  oc = .returned (r.map (a_v Γ)) ∧ va_P Γ.1 vwCl (a_w Γ n M) t.heap ∧ n ≤ 1000 ∧ va_F (a_A Γ) st t
/-- at pc, with these locals, this stack, this memory of n cells, k1 cells of k2 slots new: the method comes to its end with r, n', M' -/
def Fr (Γ : aG) (l : Launch) (μ : aM) (pc : Nat) (L : List (Nat × Value)) (st : List Value) (n k1 k2 : Nat) (M : Nat → aC) (r : Option Value) (n' : Nat) (M' : Nat → aC) : Prop :=
  ∀ (p : Program) (e : Env) (s : State) (m : MethodId) (args : Array Value) (below : List Frame) (meth : Method) (c : Code) (H : Heap) (locs : List Loc) (ls : Array Slot),
    a_X Γ μ p s m args meth c → a_W Γ s n k1 M H locs → lv_has ls μ.2.2.1 (a_L Γ L) →
    W p l e μ.2.2.2.2.1 s m args below meth c H locs k1 k2 (MQ below (a_Q Γ r n' M') args s μ.2.2.2.2.2.1 μ.2.2.2.2.2.2 (a_A Γ)) (F0 m pc ls (st.map (a_v Γ)))
def a_P (Γ : aG) (as : List Value) (n : Nat) (M : Nat → aC) : Array Value → State → Prop := fun v U =>
  v = (as.map (a_v Γ)).toArray ∧ a_S Γ U ∧ va_P Γ.1 vwCl (a_w Γ n M) U.heap ∧ U.heap.size = Γ.2.1 + n ∧ n ≤ 1000
/-- the method, called with these, answers so -/
def Ev (Γ : aG) (l : Launch) (μ : aM) (as : List Value) (n : Nat) (M : Nat → aC) (r : Option Value) (n' : Nat) (M' : Nat → aC) : Prop :=
  Met l μ.1 (.code μ.1 μ.2.1 μ.2.2.1 μ.2.2.2.1 :: tG) μ.2.2.2.2.1 (a_P Γ as n M) (a_Q Γ r n' M') μ.2.2.2.2.2.1 μ.2.2.2.2.2.2 (a_A Γ)
theorem a_blind {Γ : aG} {as : List Value} {n : Nat} {M : Nat → aC} : FrameBlind (a_P Γ as n M) := fun a U g mk q => ⟨q.1, a_S.same (u := U) rfl rfl q.2.1, q.2.2⟩
theorem a_lk : ∀ {L : List (Nat × Value)} {i : Nat} {v : Value}, L.lookup i = some v → (i, v) ∈ L
  | [], _, _, h => by simp at h
  | (j, w) :: L, i, v, h => by
    rw [List.lookup_cons] at h
    by_cases e : (i == j) = true
    · rw [e] at h
      have : i = j := by simpa using e
      cases h
      rw [this]
      exact List.mem_cons_self
    · have e' : (i == j) = false := by simpa using e
      rw [e'] at h
      exact List.mem_cons_of_mem _ (a_lk h)
theorem a_at {Γ : aG} {ls : Array Slot} {nL : Nat} {L : List (Nat × Value)} {i : Nat} {v : Value} (hl : lv_has ls nL (a_L Γ L)) (h : L.lookup i = some v) : ls[i]? = some (.val (a_v Γ v)) :=
  hl.2.2 (i, a_v Γ v) (List.mem_map.mpr ⟨(i, v), a_lk h, rfl⟩)
theorem Ev.of {Γ : aG} {l : Launch} {y : MethodName} {cc : ByteArray} {nL : Nat} {ret : Option FieldType} {R : Room} {mc ms : Nat} {as : List Value} {n : Nat} {M : Nat → aC} {r : Option Value} {n' : Nat} {M' : Nat → aC} (L : List (Nat × Value))
    (hy : plainName y.cls = true) (hlen : (lg_sl (as.map (a_v Γ))).length ≤ nL) (hL : lv_args 0 (as.map (a_v Γ)) = a_L Γ L)
    (k : Fr Γ l (y, cc, nL, ret, R, mc, ms) 0 L [] n 0 0 M r n' M') : Ev Γ l (y, cc, nL, ret, R, mc, ms) as n M r n' M' := by
  refine Met.ofW (cc := cc) (maxL := nL) (ret := ret) hy rfl ?_
  intro p e s m args below meth c s₁ B hml hv
  obtain ⟨rfl, hS, hP, hz, hn⟩ := hv
  have hts := atoms_spec (ws := .code y cc nL ret :: tG) B.pre
  rw [lg_entry_eq]
  exact k p e s m _ below meth c s.heap [] _ ⟨B.exec, B.bytes, B.returns, hml, findClass_of_methodNamed B.named, fun w h => hts w (List.mem_cons_of_mem _ h), B.notSynchronized, (name_of_methodNamed B.named B.method).1, hS⟩ ⟨hP, hz, va_S.rf, hn⟩ (by rw [← hL]; exact lv_entry _ hlen)
section A1
variable {Γ : aG} {l : Launch} {y : MethodName} {cc : ByteArray} {nL : Nat} {ret : Option FieldType} {R : Room} {mc ms : Nat} {pc : Nat} {L : List (Nat × Value)} {st : List Value} {n k1 k2 : Nat} {M : Nat → aC} {r : Option Value} {n' : Nat} {M' : Nat → aC}
theorem fr_iconst {z : Int} {v : Int32} (hv : Int32.ofInt z = v) (hd : decode cc pc = .ok (.iconst z, 1)) (k : Fr Γ l (y, cc, nL, ret, R, mc, ms) (pc + 1) L (.int v :: st) n k1 k2 M r n' M') : Fr Γ l (y, cc, nL, ret, R, mc, ms) pc L st n k1 k2 M r n' M' := by
  intro p e s m args below meth c H locs ls C w hl
  exact lv_iconst C.1 C.2.1 hd hv (k p e s m args below meth c H locs ls C w hl)
theorem fr_bipush {z : Int} {v : Int32} (hv : (Int8.ofInt z).toInt32 = v) (hd : decode cc pc = .ok (.bipush z, 2)) (k : Fr Γ l (y, cc, nL, ret, R, mc, ms) (pc + 2) L (.int v :: st) n k1 k2 M r n' M') : Fr Γ l (y, cc, nL, ret, R, mc, ms) pc L st n k1 k2 M r n' M' := by
  intro p e s m args below meth c H locs ls C w hl
  exact lv_bipush C.1 C.2.1 hd hv (k p e s m args below meth c H locs ls C w hl)
theorem fr_sipush {z : Int} {v : Int32} (hv : (Int16.ofInt z).toInt32 = v) (hd : decode cc pc = .ok (.sipush z, 3)) (k : Fr Γ l (y, cc, nL, ret, R, mc, ms) (pc + 3) L (.int v :: st) n k1 k2 M r n' M') : Fr Γ l (y, cc, nL, ret, R, mc, ms) pc L st n k1 k2 M r n' M' := by
  intro p e s m args below meth c H locs ls C w hl
  exact lv_sipush C.1 C.2.1 hd hv (k p e s m args below meth c H locs ls C w hl)
theorem fr_lconst {z : Fin 2} {v : Int64} (hv : Int64.ofNat (z : Nat) = v) (hd : decode cc pc = .ok (.lconst z, 1)) (k : Fr Γ l (y, cc, nL, ret, R, mc, ms) (pc + 1) L (.long v :: st) n k1 k2 M r n' M') : Fr Γ l (y, cc, nL, ret, R, mc, ms) pc L st n k1 k2 M r n' M' := by
  intro p e s m args below meth c H locs ls C w hl
  exact lv_lconst C.1 C.2.1 hd hv (k p e s m args below meth c H locs ls C w hl)
theorem fr_iload_n {j : Fin 4} {x : Int32} (h : L.lookup (j : Nat) = some (.int x)) (hd : decode cc pc = .ok (.iload_n j, 1)) (k : Fr Γ l (y, cc, nL, ret, R, mc, ms) (pc + 1) L (.int x :: st) n k1 k2 M r n' M') : Fr Γ l (y, cc, nL, ret, R, mc, ms) pc L st n k1 k2 M r n' M' := by
  intro p e s m args below meth c H locs ls C w hl
  exact lv_iload_n C.1 C.2.1 hd rfl (a_at hl h) (k p e s m args below meth c H locs ls C w hl)
theorem fr_iload {i : Nat} {x : Int32} (h : L.lookup i = some (.int x)) (hd : decode cc pc = .ok (.iload i, 2)) (k : Fr Γ l (y, cc, nL, ret, R, mc, ms) (pc + 2) L (.int x :: st) n k1 k2 M r n' M') : Fr Γ l (y, cc, nL, ret, R, mc, ms) pc L st n k1 k2 M r n' M' := by
  intro p e s m args below meth c H locs ls C w hl
  exact lv_iload C.1 C.2.1 hd (a_at hl h) (k p e s m args below meth c H locs ls C w hl)
theorem fr_lload {i : Nat} {x : Int64} (h : L.lookup i = some (.long x)) (hd : decode cc pc = .ok (.lload i, 2)) (k : Fr Γ l (y, cc, nL, ret, R, mc, ms) (pc + 2) L (.long x :: st) n k1 k2 M r n' M') : Fr Γ l (y, cc, nL, ret, R, mc, ms) pc L st n k1 k2 M r n' M' := by
  intro p e s m args below meth c H locs ls C w hl
  exact lv_lload C.1 C.2.1 hd (a_at hl h) (k p e s m args below meth c H locs ls C w hl)
theorem fr_aload_n {j : Fin 4} {x : Nat} (h : L.lookup (j : Nat) = some (.ref x)) (hd : decode cc pc = .ok (.aload_n j, 1)) (k : Fr Γ l (y, cc, nL, ret, R, mc, ms) (pc + 1) L (.ref x :: st) n k1 k2 M r n' M') : Fr Γ l (y, cc, nL, ret, R, mc, ms) pc L st n k1 k2 M r n' M' := by
  intro p e s m args below meth c H locs ls C w hl
  exact lv_aload_n C.1 C.2.1 hd rfl (a_at hl h) (k p e s m args below meth c H locs ls C w hl)
theorem fr_aload {i : Nat} {x : Nat} (h : L.lookup i = some (.ref x)) (hd : decode cc pc = .ok (.aload i, 2)) (k : Fr Γ l (y, cc, nL, ret, R, mc, ms) (pc + 2) L (.ref x :: st) n k1 k2 M r n' M') : Fr Γ l (y, cc, nL, ret, R, mc, ms) pc L st n k1 k2 M r n' M' := by
  intro p e s m args below meth c H locs ls C w hl
  exact lv_aload C.1 C.2.1 hd (a_at hl h) (k p e s m args below meth c H locs ls C w hl)
theorem fr_iadd {x z : Int32} (hd : decode cc pc = .ok (.iadd, 1)) (k : Fr Γ l (y, cc, nL, ret, R, mc, ms) (pc + 1) L (.int (x + z) :: st) n k1 k2 M r n' M') : Fr Γ l (y, cc, nL, ret, R, mc, ms) pc L (.int z :: .int x :: st) n k1 k2 M r n' M' := by
  intro p e s m args below meth c H locs ls C w hl
  exact lv_iadd C.1 C.2.1 hd (k p e s m args below meth c H locs ls C w hl)
theorem fr_isub {x z : Int32} (hd : decode cc pc = .ok (.isub, 1)) (k : Fr Γ l (y, cc, nL, ret, R, mc, ms) (pc + 1) L (.int (x - z) :: st) n k1 k2 M r n' M') : Fr Γ l (y, cc, nL, ret, R, mc, ms) pc L (.int z :: .int x :: st) n k1 k2 M r n' M' := by
  intro p e s m args below meth c H locs ls C w hl
  exact lv_isub C.1 C.2.1 hd (k p e s m args below meth c H locs ls C w hl)
theorem fr_imul {x z : Int32} (hd : decode cc pc = .ok (.imul, 1)) (k : Fr Γ l (y, cc, nL, ret, R, mc, ms) (pc + 1) L (.int (x * z) :: st) n k1 k2 M r n' M') : Fr Γ l (y, cc, nL, ret, R, mc, ms) pc L (.int z :: .int x :: st) n k1 k2 M r n' M' := by
  intro p e s m args below meth c H locs ls C w hl
  exact lv_imul C.1 C.2.1 hd (k p e s m args below meth c H locs ls C w hl)
theorem fr_iand {x z : Int32} (hd : decode cc pc = .ok (.iand, 1)) (k : Fr Γ l (y, cc, nL, ret, R, mc, ms) (pc + 1) L (.int (x &&& z) :: st) n k1 k2 M r n' M') : Fr Γ l (y, cc, nL, ret, R, mc, ms) pc L (.int z :: .int x :: st) n k1 k2 M r n' M' := by
  intro p e s m args below meth c H locs ls C w hl
  exact lv_iand C.1 C.2.1 hd (k p e s m args below meth c H locs ls C w hl)
theorem fr_ior {x z : Int32} (hd : decode cc pc = .ok (.ior, 1)) (k : Fr Γ l (y, cc, nL, ret, R, mc, ms) (pc + 1) L (.int (x ||| z) :: st) n k1 k2 M r n' M') : Fr Γ l (y, cc, nL, ret, R, mc, ms) pc L (.int z :: .int x :: st) n k1 k2 M r n' M' := by
  intro p e s m args below meth c H locs ls C w hl
  exact lv_ior C.1 C.2.1 hd (k p e s m args below meth c H locs ls C w hl)
theorem fr_idiv {x z : Int32} (h : ¬ z = 0) (hd : decode cc pc = .ok (.idiv, 1)) (k : Fr Γ l (y, cc, nL, ret, R, mc, ms) (pc + 1) L (.int (x / z) :: st) n k1 k2 M r n' M') : Fr Γ l (y, cc, nL, ret, R, mc, ms) pc L (.int z :: .int x :: st) n k1 k2 M r n' M' := by
  intro p e s m args below meth c H locs ls C w hl
  exact lv_idiv C.1 C.2.1 hd h (k p e s m args below meth c H locs ls C w hl)
theorem fr_irem {x z : Int32} (h : ¬ z = 0) (hd : decode cc pc = .ok (.irem, 1)) (k : Fr Γ l (y, cc, nL, ret, R, mc, ms) (pc + 1) L (.int (x % z) :: st) n k1 k2 M r n' M') : Fr Γ l (y, cc, nL, ret, R, mc, ms) pc L (.int z :: .int x :: st) n k1 k2 M r n' M' := by
  intro p e s m args below meth c H locs ls C w hl
  refine lv_irem C.1 C.2.1 hd h ?_
  rw [irem_eq_mod]
  exact k p e s m args below meth c H locs ls C w hl
theorem fr_ishl {x z : Int32} (hd : decode cc pc = .ok (.ishl, 1)) (k : Fr Γ l (y, cc, nL, ret, R, mc, ms) (pc + 1) L (.int (x <<< (z &&& 31)) :: st) n k1 k2 M r n' M') : Fr Γ l (y, cc, nL, ret, R, mc, ms) pc L (.int z :: .int x :: st) n k1 k2 M r n' M' := by
  intro p e s m args below meth c H locs ls C w hl
  exact lv_ishl C.1 C.2.1 hd (k p e s m args below meth c H locs ls C w hl)
theorem fr_ishr {x z : Int32} (hd : decode cc pc = .ok (.ishr, 1)) (k : Fr Γ l (y, cc, nL, ret, R, mc, ms) (pc + 1) L (.int (x >>> (z &&& 31)) :: st) n k1 k2 M r n' M') : Fr Γ l (y, cc, nL, ret, R, mc, ms) pc L (.int z :: .int x :: st) n k1 k2 M r n' M' := by
  intro p e s m args below meth c H locs ls C w hl
  exact lv_ishr C.1 C.2.1 hd (k p e s m args below meth c H locs ls C w hl)
theorem fr_iushr {x z : Int32} (hd : decode cc pc = .ok (.iushr, 1)) (k : Fr Γ l (y, cc, nL, ret, R, mc, ms) (pc + 1) L (.int ((x.toUInt32 >>> (z.toUInt32 &&& Int32.toUInt32 31)).toInt32) :: st) n k1 k2 M r n' M') : Fr Γ l (y, cc, nL, ret, R, mc, ms) pc L (.int z :: .int x :: st) n k1 k2 M r n' M' := by
  intro p e s m args below meth c H locs ls C w hl
  exact lv_iushr C.1 C.2.1 hd rfl (k p e s m args below meth c H locs ls C w hl)
theorem fr_ladd {x z : Int64} (hd : decode cc pc = .ok (.ladd, 1)) (k : Fr Γ l (y, cc, nL, ret, R, mc, ms) (pc + 1) L (.long (x + z) :: st) n k1 k2 M r n' M') : Fr Γ l (y, cc, nL, ret, R, mc, ms) pc L (.long z :: .long x :: st) n k1 k2 M r n' M' := by
  intro p e s m args below meth c H locs ls C w hl
  exact lv_ladd C.1 C.2.1 hd (k p e s m args below meth c H locs ls C w hl)
theorem fr_lmul {x z : Int64} (hd : decode cc pc = .ok (.lmul, 1)) (k : Fr Γ l (y, cc, nL, ret, R, mc, ms) (pc + 1) L (.long (x * z) :: st) n k1 k2 M r n' M') : Fr Γ l (y, cc, nL, ret, R, mc, ms) pc L (.long z :: .long x :: st) n k1 k2 M r n' M' := by
  intro p e s m args below meth c H locs ls C w hl
  exact lv_lmul C.1 C.2.1 hd (k p e s m args below meth c H locs ls C w hl)
theorem fr_lcmp {x z : Int64} (hd : decode cc pc = .ok (.lcmp, 1)) (k : Fr Γ l (y, cc, nL, ret, R, mc, ms) (pc + 1) L (.int (lg_cmp x z) :: st) n k1 k2 M r n' M') : Fr Γ l (y, cc, nL, ret, R, mc, ms) pc L (.long z :: .long x :: st) n k1 k2 M r n' M' := by
  intro p e s m args below meth c H locs ls C w hl
  exact W.lcmp C.1 C.2.1 hd (k p e s m args below meth c H locs ls C w hl)
theorem fr_i2l {x : Int32} (hd : decode cc pc = .ok (.i2l, 1)) (k : Fr Γ l (y, cc, nL, ret, R, mc, ms) (pc + 1) L (.long x.toInt64 :: st) n k1 k2 M r n' M') : Fr Γ l (y, cc, nL, ret, R, mc, ms) pc L (.int x :: st) n k1 k2 M r n' M' := by
  intro p e s m args below meth c H locs ls C w hl
  exact lv_i2l C.1 C.2.1 hd rfl (k p e s m args below meth c H locs ls C w hl)
theorem fr_i2b {x : Int32} (hd : decode cc pc = .ok (.i2b, 1)) (k : Fr Γ l (y, cc, nL, ret, R, mc, ms) (pc + 1) L (.int x.toInt8.toInt32 :: st) n k1 k2 M r n' M') : Fr Γ l (y, cc, nL, ret, R, mc, ms) pc L (.int x :: st) n k1 k2 M r n' M' := by
  intro p e s m args below meth c H locs ls C w hl
  exact lv_i2b C.1 C.2.1 hd rfl (k p e s m args below meth c H locs ls C w hl)
theorem fr_i2s {x : Int32} (hd : decode cc pc = .ok (.i2s, 1)) (k : Fr Γ l (y, cc, nL, ret, R, mc, ms) (pc + 1) L (.int x.toInt16.toInt32 :: st) n k1 k2 M r n' M') : Fr Γ l (y, cc, nL, ret, R, mc, ms) pc L (.int x :: st) n k1 k2 M r n' M' := by
  intro p e s m args below meth c H locs ls C w hl
  exact lv_i2s C.1 C.2.1 hd rfl (k p e s m args below meth c H locs ls C w hl)
theorem fr_i2c {x : Int32} (hd : decode cc pc = .ok (.i2c, 1)) (k : Fr Γ l (y, cc, nL, ret, R, mc, ms) (pc + 1) L (.int (x.toUInt32 % 65536).toInt32 :: st) n k1 k2 M r n' M') : Fr Γ l (y, cc, nL, ret, R, mc, ms) pc L (.int x :: st) n k1 k2 M r n' M' := by
  intro p e s m args below meth c H locs ls C w hl
  exact lv_i2c C.1 C.2.1 hd rfl (k p e s m args below meth c H locs ls C w hl)
theorem fr_dup {v : Value} (h : v.category = 1) (hd : decode cc pc = .ok (.dup, 1)) (k : Fr Γ l (y, cc, nL, ret, R, mc, ms) (pc + 1) L (v :: v :: st) n k1 k2 M r n' M') : Fr Γ l (y, cc, nL, ret, R, mc, ms) pc L (v :: st) n k1 k2 M r n' M' := by
  intro p e s m args below meth c H locs ls C w hl
  exact lv_dup C.1 C.2.1 hd ((a_v_cat Γ v).trans h) (k p e s m args below meth c H locs ls C w hl)
theorem fr_pop {v : Value} (h : v.category = 1) (hd : decode cc pc = .ok (.pop, 1)) (k : Fr Γ l (y, cc, nL, ret, R, mc, ms) (pc + 1) L st n k1 k2 M r n' M') : Fr Γ l (y, cc, nL, ret, R, mc, ms) pc L (v :: st) n k1 k2 M r n' M' := by
  intro p e s m args below meth c H locs ls C w hl
  exact lv_pop C.1 C.2.1 hd ((a_v_cat Γ v).trans h) (k p e s m args below meth c H locs ls C w hl)
theorem fr_dup2 {v u : Value} (h : v.category = 1) (g : u.category = 1) (hd : decode cc pc = .ok (.dup2, 1)) (k : Fr Γ l (y, cc, nL, ret, R, mc, ms) (pc + 1) L (v :: u :: v :: u :: st) n k1 k2 M r n' M') : Fr Γ l (y, cc, nL, ret, R, mc, ms) pc L (v :: u :: st) n k1 k2 M r n' M' := by
  intro p e s m args below meth c H locs ls C w hl
  exact lv_dup2_11 C.1 C.2.1 hd ((a_v_cat Γ v).trans h) ((a_v_cat Γ u).trans g) (k p e s m args below meth c H locs ls C w hl)
theorem a_flt (Γ : aG) (x : Nat × Value) (f : Nat × Value → Bool) {g : Nat × Value → Bool} {L : List (Nat × Value)} (h : ∀ q : Nat × Value, g (q.1, a_v Γ q.2) = f q) : (x.1, a_v Γ x.2) :: (a_L Γ L).filter g = a_L Γ (x :: L.filter f) := by
  show _ = (x.1, a_v Γ x.2) :: (L.filter f).map _
  congr 1
  unfold a_L
  rw [List.filter_map]
  congr 1
  apply List.filter_congr
  intro q _
  exact h q
theorem fr_istore_n {j : Fin 4} {x : Int32} (L1 : List (Nat × Value)) (hn : (j : Nat) < nL) (hL : ((j : Nat), .int x) :: L.filter (fun q => !(q.1 == (j : Nat)) && !(q.1 + 1 == (j : Nat) && q.2.category == 2)) = L1) (hd : decode cc pc = .ok (.istore_n j, 1)) (k : Fr Γ l (y, cc, nL, ret, R, mc, ms) (pc + 1) L1 st n k1 k2 M r n' M') : Fr Γ l (y, cc, nL, ret, R, mc, ms) pc L (.int x :: st) n k1 k2 M r n' M' := by
  intro p e s m args below meth c H locs ls C w hl
  exact lv_istore_n C.1 C.2.1 hd rfl hl hn (lv' := a_L Γ L1) (by rw [← hL]; refine a_flt Γ ((j : Nat), .int x) _ ?_; intro q; simp only [a_v_cat]) (fun ls hl => k p e s m args below meth c H locs ls C w hl)
theorem fr_istore {i : Nat} {x : Int32} (L1 : List (Nat × Value)) (hn : i < nL) (hL : (i, .int x) :: L.filter (fun q => !(q.1 == i) && !(q.1 + 1 == i && q.2.category == 2)) = L1) (hd : decode cc pc = .ok (.istore i, 2)) (k : Fr Γ l (y, cc, nL, ret, R, mc, ms) (pc + 2) L1 st n k1 k2 M r n' M') : Fr Γ l (y, cc, nL, ret, R, mc, ms) pc L (.int x :: st) n k1 k2 M r n' M' := by
  intro p e s m args below meth c H locs ls C w hl
  exact lv_istore C.1 C.2.1 hd hl hn (lv' := a_L Γ L1) (by rw [← hL]; refine a_flt Γ (i, .int x) _ ?_; intro q; simp only [a_v_cat]) (fun ls hl => k p e s m args below meth c H locs ls C w hl)
theorem fr_astore_n {j : Fin 4} {x : Nat} (L1 : List (Nat × Value)) (hn : (j : Nat) < nL) (hL : ((j : Nat), .ref x) :: L.filter (fun q => !(q.1 == (j : Nat)) && !(q.1 + 1 == (j : Nat) && q.2.category == 2)) = L1) (hd : decode cc pc = .ok (.astore_n j, 1)) (k : Fr Γ l (y, cc, nL, ret, R, mc, ms) (pc + 1) L1 st n k1 k2 M r n' M') : Fr Γ l (y, cc, nL, ret, R, mc, ms) pc L (.ref x :: st) n k1 k2 M r n' M' := by
  intro p e s m args below meth c H locs ls C w hl
  exact lv_astore_n C.1 C.2.1 hd rfl hl hn (lv' := a_L Γ L1) (by rw [← hL]; refine a_flt Γ ((j : Nat), .ref x) _ ?_; intro q; simp only [a_v_cat]) (fun ls hl => k p e s m args below meth c H locs ls C w hl)
theorem fr_astore {i : Nat} {x : Nat} (L1 : List (Nat × Value)) (hn : i < nL) (hL : (i, .ref x) :: L.filter (fun q => !(q.1 == i) && !(q.1 + 1 == i && q.2.category == 2)) = L1) (hd : decode cc pc = .ok (.astore i, 2)) (k : Fr Γ l (y, cc, nL, ret, R, mc, ms) (pc + 2) L1 st n k1 k2 M r n' M') : Fr Γ l (y, cc, nL, ret, R, mc, ms) pc L (.ref x :: st) n k1 k2 M r n' M' := by
  intro p e s m args below meth c H locs ls C w hl
  exact lv_astore C.1 C.2.1 hd hl hn (lv' := a_L Γ L1) (by rw [← hL]; refine a_flt Γ (i, .ref x) _ ?_; intro q; simp only [a_v_cat]) (fun ls hl => k p e s m args below meth c H locs ls C w hl)
theorem fr_lstore {i : Nat} {x : Int64} (L1 : List (Nat × Value)) (hn : i + 1 < nL) (hL : (i, .long x) :: L.filter (fun q => !(q.1 == i) && (!(q.1 == i + 1) && !(q.1 + 1 == i && q.2.category == 2))) = L1) (hd : decode cc pc = .ok (.lstore i, 2)) (k : Fr Γ l (y, cc, nL, ret, R, mc, ms) (pc + 2) L1 st n k1 k2 M r n' M') : Fr Γ l (y, cc, nL, ret, R, mc, ms) pc L (.long x :: st) n k1 k2 M r n' M' := by
  intro p e s m args below meth c H locs ls C w hl
  exact lv_lstore C.1 C.2.1 hd hl hn (lv' := a_L Γ L1) (by rw [← hL]; refine a_flt Γ (i, .long x) _ ?_; intro q; simp only [a_v_cat]) (fun ls hl => k p e s m args below meth c H locs ls C w hl)
theorem fr_iinc {i : Nat} {z : Int} {x v : Int32} (L1 : List (Nat × Value)) (h : L.lookup i = some (.int x)) (hv : x + Int32.ofInt z = v) (hn : i < nL) (hL : (i, .int v) :: L.filter (fun q => !(q.1 == i) && !(q.1 + 1 == i && q.2.category == 2)) = L1) (hd : decode cc pc = .ok (.iinc i z, 3)) (k : Fr Γ l (y, cc, nL, ret, R, mc, ms) (pc + 3) L1 st n k1 k2 M r n' M') : Fr Γ l (y, cc, nL, ret, R, mc, ms) pc L st n k1 k2 M r n' M' := by
  intro p e s m args below meth c H locs ls C w hl
  obtain ⟨j, hj⟩ := List.getElem?_of_mem (List.mem_map.mpr ⟨(i, .int x), a_lk h, rfl⟩ : (i, a_v Γ (.int x)) ∈ a_L Γ L)
  exact lv_iinc C.1 C.2.1 hd hl hj hv hn (lv' := a_L Γ L1) (by rw [← hL]; refine a_flt Γ (i, .int v) _ ?_; intro q; simp only [a_v_cat]) (fun ls hl => k p e s m args below meth c H locs ls C w hl)
theorem a_pick {Γ : aG} {L : List (Nat × Value)} {ks : List Nat} : lv_pick (a_L Γ L) ks = a_L Γ (lv_pick L ks) := by
  unfold lv_pick a_L
  rw [List.map_filterMap]
  congr 1
  funext k
  rw [List.getElem?_map]
theorem fr_sub (ks : List Nat) {L1 : List (Nat × Value)} (hL : lv_pick L ks = L1) (k : Fr Γ l (y, cc, nL, ret, R, mc, ms) pc L1 st n k1 k2 M r n' M') : Fr Γ l (y, cc, nL, ret, R, mc, ms) pc L st n k1 k2 M r n' M' := by
  intro p e s m args below meth c H locs ls C w hl
  exact k p e s m args below meth c H locs ls C w (lv_sub hl ks (by rw [← hL]; exact a_pick))
theorem fr_nm {x : Int32} (k : ∀ z : Int32, z = x → Fr Γ l (y, cc, nL, ret, R, mc, ms) pc L (.int z :: st) n k1 k2 M r n' M') : Fr Γ l (y, cc, nL, ret, R, mc, ms) pc L (.int x :: st) n k1 k2 M r n' M' := k x rfl
theorem fr_eq {x z : Int32} (h : x = z) (k : Fr Γ l (y, cc, nL, ret, R, mc, ms) pc L (.int z :: st) n k1 k2 M r n' M') : Fr Γ l (y, cc, nL, ret, R, mc, ms) pc L (.int x :: st) n k1 k2 M r n' M' := h ▸ k
theorem fr_mem {M1 : Nat → aC} (h : M = M1) (k : Fr Γ l (y, cc, nL, ret, R, mc, ms) pc L st n k1 k2 M1 r n' M') : Fr Γ l (y, cc, nL, ret, R, mc, ms) pc L st n k1 k2 M r n' M' := h ▸ k
theorem fr_if_eq {x : Int32} {off : Int} (tgt : Nat) (ht : (pc : Int) + off = (tgt : Int)) (hd : decode cc pc = .ok (.ifCond .eq off, 3)) (kt : x = 0 → Fr Γ l (y, cc, nL, ret, R, mc, ms) tgt L st n k1 k2 M r n' M') (kf : ¬ x = 0 → Fr Γ l (y, cc, nL, ret, R, mc, ms) (pc + 3) L st n k1 k2 M r n' M') : Fr Γ l (y, cc, nL, ret, R, mc, ms) pc L (.int x :: st) n k1 k2 M r n' M' := by
  intro p e s m args below meth c H locs ls C w hl
  exact lv_if_eq C.1 C.2.1 hd ht (fun q => kt q p e s m args below meth c H locs ls C w hl) (fun q => kf q p e s m args below meth c H locs ls C w hl)
theorem fr_icmp_eq {x z : Int32} {off : Int} (tgt : Nat) (ht : (pc : Int) + off = (tgt : Int)) (hd : decode cc pc = .ok (.if_icmp .eq off, 3)) (kt : x = z → Fr Γ l (y, cc, nL, ret, R, mc, ms) tgt L st n k1 k2 M r n' M') (kf : ¬ x = z → Fr Γ l (y, cc, nL, ret, R, mc, ms) (pc + 3) L st n k1 k2 M r n' M') : Fr Γ l (y, cc, nL, ret, R, mc, ms) pc L (.int z :: .int x :: st) n k1 k2 M r n' M' := by
  intro p e s m args below meth c H locs ls C w hl
  exact lv_icmp_eq C.1 C.2.1 hd ht (fun q => kt q p e s m args below meth c H locs ls C w hl) (fun q => kf q p e s m args below meth c H locs ls C w hl)
theorem fr_if_ne {x : Int32} {off : Int} (tgt : Nat) (ht : (pc : Int) + off = (tgt : Int)) (hd : decode cc pc = .ok (.ifCond .ne off, 3)) (kt : ¬ x = 0 → Fr Γ l (y, cc, nL, ret, R, mc, ms) tgt L st n k1 k2 M r n' M') (kf : x = 0 → Fr Γ l (y, cc, nL, ret, R, mc, ms) (pc + 3) L st n k1 k2 M r n' M') : Fr Γ l (y, cc, nL, ret, R, mc, ms) pc L (.int x :: st) n k1 k2 M r n' M' := by
  intro p e s m args below meth c H locs ls C w hl
  exact lv_if_ne C.1 C.2.1 hd ht (fun q => kt q p e s m args below meth c H locs ls C w hl) (fun q => kf q p e s m args below meth c H locs ls C w hl)
theorem fr_icmp_ne {x z : Int32} {off : Int} (tgt : Nat) (ht : (pc : Int) + off = (tgt : Int)) (hd : decode cc pc = .ok (.if_icmp .ne off, 3)) (kt : ¬ x = z → Fr Γ l (y, cc, nL, ret, R, mc, ms) tgt L st n k1 k2 M r n' M') (kf : x = z → Fr Γ l (y, cc, nL, ret, R, mc, ms) (pc + 3) L st n k1 k2 M r n' M') : Fr Γ l (y, cc, nL, ret, R, mc, ms) pc L (.int z :: .int x :: st) n k1 k2 M r n' M' := by
  intro p e s m args below meth c H locs ls C w hl
  exact lv_icmp_ne C.1 C.2.1 hd ht (fun q => kt q p e s m args below meth c H locs ls C w hl) (fun q => kf q p e s m args below meth c H locs ls C w hl)
theorem fr_if_lt {x : Int32} {off : Int} (tgt : Nat) (ht : (pc : Int) + off = (tgt : Int)) (hd : decode cc pc = .ok (.ifCond .lt off, 3)) (kt : x < 0 → Fr Γ l (y, cc, nL, ret, R, mc, ms) tgt L st n k1 k2 M r n' M') (kf : ¬ x < 0 → Fr Γ l (y, cc, nL, ret, R, mc, ms) (pc + 3) L st n k1 k2 M r n' M') : Fr Γ l (y, cc, nL, ret, R, mc, ms) pc L (.int x :: st) n k1 k2 M r n' M' := by
  intro p e s m args below meth c H locs ls C w hl
  exact lv_if_lt C.1 C.2.1 hd ht (fun q => kt q p e s m args below meth c H locs ls C w hl) (fun q => kf q p e s m args below meth c H locs ls C w hl)
theorem fr_icmp_lt {x z : Int32} {off : Int} (tgt : Nat) (ht : (pc : Int) + off = (tgt : Int)) (hd : decode cc pc = .ok (.if_icmp .lt off, 3)) (kt : x < z → Fr Γ l (y, cc, nL, ret, R, mc, ms) tgt L st n k1 k2 M r n' M') (kf : ¬ x < z → Fr Γ l (y, cc, nL, ret, R, mc, ms) (pc + 3) L st n k1 k2 M r n' M') : Fr Γ l (y, cc, nL, ret, R, mc, ms) pc L (.int z :: .int x :: st) n k1 k2 M r n' M' := by
  intro p e s m args below meth c H locs ls C w hl
  exact lv_icmp_lt C.1 C.2.1 hd ht (fun q => kt q p e s m args below meth c H locs ls C w hl) (fun q => kf q p e s m args below meth c H locs ls C w hl)
theorem fr_if_ge {x : Int32} {off : Int} (tgt : Nat) (ht : (pc : Int) + off = (tgt : Int)) (hd : decode cc pc = .ok (.ifCond .ge off, 3)) (kt : 0 ≤ x → Fr Γ l (y, cc, nL, ret, R, mc, ms) tgt L st n k1 k2 M r n' M') (kf : ¬ 0 ≤ x → Fr Γ l (y, cc, nL, ret, R, mc, ms) (pc + 3) L st n k1 k2 M r n' M') : Fr Γ l (y, cc, nL, ret, R, mc, ms) pc L (.int x :: st) n k1 k2 M r n' M' := by
  intro p e s m args below meth c H locs ls C w hl
  exact lv_if_ge C.1 C.2.1 hd ht (fun q => kt q p e s m args below meth c H locs ls C w hl) (fun q => kf q p e s m args below meth c H locs ls C w hl)
theorem fr_icmp_ge {x z : Int32} {off : Int} (tgt : Nat) (ht : (pc : Int) + off = (tgt : Int)) (hd : decode cc pc = .ok (.if_icmp .ge off, 3)) (kt : z ≤ x → Fr Γ l (y, cc, nL, ret, R, mc, ms) tgt L st n k1 k2 M r n' M') (kf : ¬ z ≤ x → Fr Γ l (y, cc, nL, ret, R, mc, ms) (pc + 3) L st n k1 k2 M r n' M') : Fr Γ l (y, cc, nL, ret, R, mc, ms) pc L (.int z :: .int x :: st) n k1 k2 M r n' M' := by
  intro p e s m args below meth c H locs ls C w hl
  exact lv_icmp_ge C.1 C.2.1 hd ht (fun q => kt q p e s m args below meth c H locs ls C w hl) (fun q => kf q p e s m args below meth c H locs ls C w hl)
theorem fr_if_gt {x : Int32} {off : Int} (tgt : Nat) (ht : (pc : Int) + off = (tgt : Int)) (hd : decode cc pc = .ok (.ifCond .gt off, 3)) (kt : 0 < x → Fr Γ l (y, cc, nL, ret, R, mc, ms) tgt L st n k1 k2 M r n' M') (kf : ¬ 0 < x → Fr Γ l (y, cc, nL, ret, R, mc, ms) (pc + 3) L st n k1 k2 M r n' M') : Fr Γ l (y, cc, nL, ret, R, mc, ms) pc L (.int x :: st) n k1 k2 M r n' M' := by
  intro p e s m args below meth c H locs ls C w hl
  exact lv_if_gt C.1 C.2.1 hd ht (fun q => kt q p e s m args below meth c H locs ls C w hl) (fun q => kf q p e s m args below meth c H locs ls C w hl)
theorem fr_icmp_gt {x z : Int32} {off : Int} (tgt : Nat) (ht : (pc : Int) + off = (tgt : Int)) (hd : decode cc pc = .ok (.if_icmp .gt off, 3)) (kt : z < x → Fr Γ l (y, cc, nL, ret, R, mc, ms) tgt L st n k1 k2 M r n' M') (kf : ¬ z < x → Fr Γ l (y, cc, nL, ret, R, mc, ms) (pc + 3) L st n k1 k2 M r n' M') : Fr Γ l (y, cc, nL, ret, R, mc, ms) pc L (.int z :: .int x :: st) n k1 k2 M r n' M' := by
  intro p e s m args below meth c H locs ls C w hl
  exact lv_icmp_gt C.1 C.2.1 hd ht (fun q => kt q p e s m args below meth c H locs ls C w hl) (fun q => kf q p e s m args below meth c H locs ls C w hl)
theorem fr_if_le {x : Int32} {off : Int} (tgt : Nat) (ht : (pc : Int) + off = (tgt : Int)) (hd : decode cc pc = .ok (.ifCond .le off, 3)) (kt : x ≤ 0 → Fr Γ l (y, cc, nL, ret, R, mc, ms) tgt L st n k1 k2 M r n' M') (kf : ¬ x ≤ 0 → Fr Γ l (y, cc, nL, ret, R, mc, ms) (pc + 3) L st n k1 k2 M r n' M') : Fr Γ l (y, cc, nL, ret, R, mc, ms) pc L (.int x :: st) n k1 k2 M r n' M' := by
  intro p e s m args below meth c H locs ls C w hl
  exact lv_if_le C.1 C.2.1 hd ht (fun q => kt q p e s m args below meth c H locs ls C w hl) (fun q => kf q p e s m args below meth c H locs ls C w hl)
theorem fr_icmp_le {x z : Int32} {off : Int} (tgt : Nat) (ht : (pc : Int) + off = (tgt : Int)) (hd : decode cc pc = .ok (.if_icmp .le off, 3)) (kt : x ≤ z → Fr Γ l (y, cc, nL, ret, R, mc, ms) tgt L st n k1 k2 M r n' M') (kf : ¬ x ≤ z → Fr Γ l (y, cc, nL, ret, R, mc, ms) (pc + 3) L st n k1 k2 M r n' M') : Fr Γ l (y, cc, nL, ret, R, mc, ms) pc L (.int z :: .int x :: st) n k1 k2 M r n' M' := by
  intro p e s m args below meth c H locs ls C w hl
  exact lv_icmp_le C.1 C.2.1 hd ht (fun q => kt q p e s m args below meth c H locs ls C w hl) (fun q => kf q p e s m args below meth c H locs ls C w hl)
theorem fr_goto {off : Int} (tgt : Nat) (ht : (pc : Int) + off = (tgt : Int)) (hd : decode cc pc = .ok (.goto off, 3)) (k : Fr Γ l (y, cc, nL, ret, R, mc, ms) tgt L st n k1 k2 M r n' M') : Fr Γ l (y, cc, nL, ret, R, mc, ms) pc L st n k1 k2 M r n' M' := by
  intro p e s m args below meth c H locs ls C w hl
  exact lv_goto C.1 C.2.1 hd ht (k p e s m args below meth c H locs ls C w hl)
theorem fr_tOut {x : Int32} {dflt lo hi : Int} {offs : Array Int} {len : Nat} (tgt : Nat) (h : x.toInt < lo ∨ hi < x.toInt) (ht : (pc : Int) + dflt = (tgt : Int)) (hd : decode cc pc = .ok (.tableswitch dflt lo hi offs, len)) (k : Fr Γ l (y, cc, nL, ret, R, mc, ms) tgt L st n k1 k2 M r n' M') : Fr Γ l (y, cc, nL, ret, R, mc, ms) pc L (.int x :: st) n k1 k2 M r n' M' := by
  intro p e s m args below meth c H locs ls C w hl
  exact lv_tableOut C.1 C.2.1 hd h ht (k p e s m args below meth c H locs ls C w hl)
theorem fr_tIn {x : Int32} {dflt lo hi : Int} {offs : Array Int} {len : Nat} {off : Int} (tgt : Nat) (h1 : ¬ x.toInt < lo) (h2 : ¬ hi < x.toInt) (ho : offs[(x.toInt - lo).toNat]? = some off) (ht : (pc : Int) + off = (tgt : Int)) (hd : decode cc pc = .ok (.tableswitch dflt lo hi offs, len)) (k : Fr Γ l (y, cc, nL, ret, R, mc, ms) tgt L st n k1 k2 M r n' M') : Fr Γ l (y, cc, nL, ret, R, mc, ms) pc L (.int x :: st) n k1 k2 M r n' M' := by
  intro p e s m args below meth c H locs ls C w hl
  exact lv_tableIn C.1 C.2.1 hd h1 h2 ho ht (k p e s m args below meth c H locs ls C w hl)
theorem fr_ldc {i : Nat} {v : Int32} (hw : Cond.constant y.cls i v ∈ tG) (hd : decode cc pc = .ok (.ldc i, 2)) (k : Fr Γ l (y, cc, nL, ret, R, mc, ms) (pc + 2) L (.int v :: st) n k1 k2 M r n' M') : Fr Γ l (y, cc, nL, ret, R, mc, ms) pc L st n k1 k2 M r n' M' := by
  intro p e s m args below meth c H locs ls C w hl
  exact lv_ldc C.1 C.2.1 C.2.2.2.2.1 (C.2.2.2.2.2.1 _ hw) hd (k p e s m args below meth c H locs ls C w hl)
theorem fr_ldcw {i : Nat} {v : Int32} (hw : Cond.constant y.cls i v ∈ tG) (hd : decode cc pc = .ok (.ldc_w i, 3)) (k : Fr Γ l (y, cc, nL, ret, R, mc, ms) (pc + 3) L (.int v :: st) n k1 k2 M r n' M') : Fr Γ l (y, cc, nL, ret, R, mc, ms) pc L st n k1 k2 M r n' M' := by
  intro p e s m args below meth c H locs ls C w hl
  exact lv_ldcw C.1 C.2.1 C.2.2.2.2.1 (C.2.2.2.2.2.1 _ hw) hd (k p e s m args below meth c H locs ls C w hl)
theorem a_fin {Γ : aG} {s t : State} {H : Heap} {locs : List Loc} {n k1 : Nat} {M : Nat → aC} {r : Option Value} {a : Array Value} (w : a_W Γ s n k1 M H locs) (ht : t.heap = H) : a_Q Γ r n M a s (.returned (r.map (a_v Γ))) t :=
  ⟨rfl, by rw [ht]; exact w.1, w.2.2.2, w.2.2.1.F ht⟩
theorem fr_ireturn {x z : Int32} {ty : FieldType} (hr : ret = some ty) (hz : x = z) (hm : M = M') (hn : narrow ty (.int x) = .int x) (hd : decode cc pc = .ok (.ireturn, 1)) : Fr Γ l (y, cc, nL, ret, R, k1, k2) pc L [.int x] n k1 k2 M (some (.int z)) n M' := by
  intro p e s m args below meth c H locs ls C w hl
  subst hr hz hm
  exact W.zret C.1 C.2.1 C.2.2.1 hn (fun t ht hW => a_fin w ht) w.2.2.1.2.2 hd C.2.2.2.2.2.2.1
theorem fr_lreturn {x z : Int64} (hr : ret = some .long) (hz : x = z) (hm : M = M') (hd : decode cc pc = .ok (.lreturn, 1)) : Fr Γ l (y, cc, nL, ret, R, k1, k2) pc L [.long x] n k1 k2 M (some (.long z)) n M' := by
  intro p e s m args below meth c H locs ls C w hl
  subst hr hz hm
  exact W.lret C.1 C.2.1 C.2.2.1 (fun t ht hW => a_fin w ht) w.2.2.1.2.2 hd C.2.2.2.2.2.2.1
theorem fr_return (hr : ret = none) (hm : M = M') (hd : decode cc pc = .ok (.return_, 1)) : Fr Γ l (y, cc, nL, ret, R, k1, k2) pc L [] n k1 k2 M none n M' := by
  intro p e s m args below meth c H locs ls C w hl
  subst hr hm
  exact W.vret C.1 C.2.1 C.2.2.1 (fun t ht hW => a_fin w ht) w.2.2.1.2.2 hd C.2.2.2.2.2.2.1
theorem fr_areturn {x : Nat} {rt : FieldType} (hr : ret = some rt) (hrt : (∃ n, rt = .object n) ∨ ∃ t, rt = .array t) (hm : M = M') (hd : decode cc pc = .ok (.areturn, 1)) : Fr Γ l (y, cc, nL, ret, R, k1, k2) pc L [.ref x] n k1 k2 M (some (.ref x)) n M' := by
  intro p e s m args below meth c H locs ls C w hl
  subst hr hm
  exact W.aret C.1 C.2.1 C.2.2.1 hrt (Or.inr ⟨_, rfl⟩) (fun t ht hW => a_fin w ht) w.2.2.1.2.2 hd C.2.2.2.2.2.2.1
theorem fr_get {i ci ix k0 N : Nat} {T : u_T} {fs : List Value} {Cn : String} {v : Value} (hc : vwCl[ci]? = some (Cn, T, N)) (hin : ∀ w ∈ u_ws Cn T N, w ∈ tG) (hk : k0 < N) (hw : Cond.fieldLink y.cls ix (T k0).1 (T k0).2.1 (T k0).2.2.1 ∈ tG) (hi : i < n) (hM : M i = aO ci fs) (hv : fs[k0]? = some v) (hd : decode cc pc = .ok (.getfield ix, 3)) (k : Fr Γ l (y, cc, nL, ret, R, mc, ms) (pc + 3) L (v :: st) n k1 k2 M r n' M') : Fr Γ l (y, cc, nL, ret, R, mc, ms) pc L (.ref i :: st) n k1 k2 M r n' M' := by
  intro p e s m args below meth c H locs ls C w hl
  have h1 : (a_w Γ n M)[i]? = some (Γ.2.1 + i, .inr (ci, fs.map (a_v Γ))) := by rw [a_w_at hi, hM]; rfl
  have h2 := va_get (rest := st.map (a_v Γ)) (v := a_v Γ v) C.1 C.2.1 C.2.2.2.2.2.1 hin C.2.2.2.2.1 C.2.2.2.2.2.2.2.2.2.2.2.2.2.2.2.1 w.1 i h1 hc k0 hk (C.2.2.2.2.2.1 _ hw) (fun _ h => h) (by rw [List.getElem?_map, hv]; rfl) hd (k p e s m args below meth c H locs ls C w hl)
  rw [← a_ad_lt (Γ := Γ) (Nat.lt_of_lt_of_le hi w.2.2.2)] at h2
  exact h2
theorem fr_put {i ci ix k0 N : Nat} {T : u_T} {fs : List Value} {Cn : String} {v : Value} {ty : FieldType} (ty0 : Nat → FieldType) (hty : ∀ k, k < N → parseFieldDescriptor (T k).2.2.1 = some (ty0 k)) (hnm : ∀ a, a < N → ∀ b, b < N → a ≠ b → (T a).2.1 ≠ (T b).2.1) (hc : vwCl[ci]? = some (Cn, T, N)) (hin : ∀ w ∈ u_ws Cn T N, w ∈ tG) (hk : k0 < N) (hw : Cond.fieldLink y.cls ix (T k0).1 (T k0).2.1 (T k0).2.2.1 ∈ tG) (hfin : (T k0).2.2.2 = false) (hdp : parseFieldDescriptor (T k0).2.2.1 = some ty) (hnr : narrow ty (a_v Γ v) = a_v Γ v) (hft : fits ty (a_v Γ v) = true) (hl0 : k0 < fs.length) (hi : i < n) (hM : M i = aO ci fs) (hd : decode cc pc = .ok (.putfield ix, 3)) (k : Fr Γ l (y, cc, nL, ret, R, mc, ms) (pc + 3) L st n k1 k2 (a_up M i (aO ci (fs.set k0 v))) r n' M') : Fr Γ l (y, cc, nL, ret, R, mc, ms) pc L (v :: .ref i :: st) n k1 k2 M r n' M' := by
  intro p e s m args below meth c H locs ls C w hl
  have h1 : (a_w Γ n M)[i]? = some (a_ad Γ i, .inr (ci, fs.map (a_v Γ))) := by rw [a_w_at hi, hM, a_ad_lt (Nat.lt_of_lt_of_le hi w.2.2.2)]; rfl
  refine va_put C.1 C.2.1 C.2.2.2.2.2.1 hin ty0 hty hnm C.2.2.2.2.1 C.2.2.2.2.2.2.2.2.2.2.2.2.2.2.2.1 w.1 a_w_D w.2.2.1 i h1 hc k0 hk (C.2.2.2.2.2.1 _ hw) (fun _ h => h) hfin hdp hnr hft (by rw [List.length_map]; exact hl0) hd (fun H1 locs1 q1 _ q3 => ?_)
  have e1 : (a_w Γ n M).set i (a_ad Γ i, .inr (ci, (fs.map (a_v Γ)).set k0 (a_v Γ v))) = a_w Γ n (a_up M i (aO ci (fs.set k0 v))) := by
    rw [← a_w_set, ← List.map_set, a_ad_lt (Nat.lt_of_lt_of_le hi w.2.2.2)]
    rfl
  rw [e1] at q1
  exact k p e s m args below meth c H1 locs1 ls C ⟨q1, w.2.1, q3, w.2.2.2⟩ hl
theorem fr_putF {i ci ix k0 N : Nat} {T : u_T} {fs : List Value} {Cn : String} {v : Value} {ty : FieldType} (ty0 : Nat → FieldType) (hty : ∀ k, k < N → parseFieldDescriptor (T k).2.2.1 = some (ty0 k)) (hnm : ∀ a, a < N → ∀ b, b < N → a ≠ b → (T a).2.1 ≠ (T b).2.1) (hc : vwCl[ci]? = some (Cn, T, N)) (hin : ∀ w ∈ u_ws Cn T N, w ∈ tG) (hk : k0 < N) (hw : Cond.fieldLink y.cls ix (T k0).1 (T k0).2.1 (T k0).2.2.1 ∈ tG) (hfin : (T k0).2.2.2 = true) (hin2 : y.name = "<init>") (hdecl : (T k0).1 = y.cls) (hdp : parseFieldDescriptor (T k0).2.2.1 = some ty) (hnr : narrow ty (a_v Γ v) = a_v Γ v) (hft : fits ty (a_v Γ v) = true) (hl0 : k0 < fs.length) (hi : i < n) (hM : M i = aO ci fs) (hd : decode cc pc = .ok (.putfield ix, 3)) (k : Fr Γ l (y, cc, nL, ret, R, mc, ms) (pc + 3) L st n k1 k2 (a_up M i (aO ci (fs.set k0 v))) r n' M') : Fr Γ l (y, cc, nL, ret, R, mc, ms) pc L (v :: .ref i :: st) n k1 k2 M r n' M' := by
  intro p e s m args below meth c H locs ls C w hl
  have h1 : (a_w Γ n M)[i]? = some (a_ad Γ i, .inr (ci, fs.map (a_v Γ))) := by rw [a_w_at hi, hM, a_ad_lt (Nat.lt_of_lt_of_le hi w.2.2.2)]; rfl
  refine va_putF C.1 C.2.1 C.2.2.2.2.2.1 hin ty0 hty hnm C.2.2.2.2.1 C.2.2.2.2.2.2.2.2.2.2.2.2.2.2.2.1 w.1 a_w_D w.2.2.1 i h1 hc k0 hk (C.2.2.2.2.2.1 _ hw) (fun _ h => h) hfin (C.2.2.2.2.2.2.2.1.trans hin2) hdecl hdp hnr hft (by rw [List.length_map]; exact hl0) hd (fun H1 locs1 q1 _ q3 => ?_)
  have e1 : (a_w Γ n M).set i (a_ad Γ i, .inr (ci, (fs.map (a_v Γ)).set k0 (a_v Γ v))) = a_w Γ n (a_up M i (aO ci (fs.set k0 v))) := by
    rw [← a_w_set, ← List.map_set, a_ad_lt (Nat.lt_of_lt_of_le hi w.2.2.2)]
    rfl
  rw [e1] at q1
  exact k p e s m args below meth c H1 locs1 ls C ⟨q1, w.2.1, q3, w.2.2.2⟩ hl
theorem fr_iald {i N : Nat} {f : Nat → Int32} {x : Int32} (j : Nat) (hx : x = nI j) (hi : i < n) (hM : M i = aI N f) (hj : j < N) (hN : N < 2 ^ 31) (hd : decode cc pc = .ok (.iaload, 1)) (k : Fr Γ l (y, cc, nL, ret, R, mc, ms) (pc + 1) L (.int (f j) :: st) n k1 k2 M r n' M') : Fr Γ l (y, cc, nL, ret, R, mc, ms) pc L (.int x :: .ref i :: st) n k1 k2 M r n' M' := by
  intro p e s m args below meth c H locs ls C w hl
  subst hx
  have h1 : (a_w Γ n M)[i]? = some (a_ad Γ i, .inl (Γ.2.2.1 0, N, .inl f)) := by rw [a_w_at hi, hM, a_ad_lt (Nat.lt_of_lt_of_le hi w.2.2.2)]; rfl
  refine va_iald C.1 C.2.1 C.2.2.2.2.2.2.2.2.2.2.2.2.2.2.2.1 w.1 i 0 h1 rfl (vp_in_nI hj hN) hd ?_
  rw [nI_clamp (Nat.lt_trans hj hN)]
  exact k p e s m args below meth c H locs ls C w hl
theorem fr_iast {i N : Nat} {f : Nat → Int32} {x z : Int32} (j : Nat) (hz : z = nI j) (hi : i < n) (hM : M i = aI N f) (hj : j < N) (hN : N < 2 ^ 31) (hd : decode cc pc = .ok (.iastore, 1)) (k : Fr Γ l (y, cc, nL, ret, R, mc, ms) (pc + 1) L st n k1 k2 (a_up M i (aI N (upd f j x))) r n' M') : Fr Γ l (y, cc, nL, ret, R, mc, ms) pc L (.int x :: .int z :: .ref i :: st) n k1 k2 M r n' M' := by
  intro p e s m args below meth c H locs ls C w hl
  subst hz
  have h1 : (a_w Γ n M)[i]? = some (a_ad Γ i, .inl (Γ.2.2.1 0, N, .inl f)) := by rw [a_w_at hi, hM, a_ad_lt (Nat.lt_of_lt_of_le hi w.2.2.2)]; rfl
  refine va_iast C.1 C.2.1 C.2.2.2.2.2.2.2.2.2.2.2.2.2.2.2.1 w.1 a_w_D w.2.2.1 i 0 h1 rfl (vp_in_nI hj hN) hd (fun H1 locs1 q1 _ q3 => ?_)
  rw [nI_clamp (Nat.lt_trans hj hN)] at q1
  have e1 : (a_w Γ n M).set i (a_ad Γ i, .inl (Γ.2.2.1 0, N, .inl (upd f j x))) = a_w Γ n (a_up M i (aI N (upd f j x))) := by
    rw [← a_w_set, a_ad_lt (Nat.lt_of_lt_of_le hi w.2.2.2)]
    rfl
  rw [e1] at q1
  exact k p e s m args below meth c H1 locs1 ls C ⟨q1, w.2.1, q3, w.2.2.2⟩ hl
theorem fr_alen {i N : Nat} {f : Nat → Int32} (hi : i < n) (hM : M i = aI N f) (hd : decode cc pc = .ok (.arraylength, 1)) (k : Fr Γ l (y, cc, nL, ret, R, mc, ms) (pc + 1) L (.int (nI N) :: st) n k1 k2 M r n' M') : Fr Γ l (y, cc, nL, ret, R, mc, ms) pc L (.ref i :: st) n k1 k2 M r n' M' := by
  intro p e s m args below meth c H locs ls C w hl
  have h1 : (a_w Γ n M)[i]? = some (a_ad Γ i, .inl (Γ.2.2.1 0, N, .inl f)) := by rw [a_w_at hi, hM, a_ad_lt (Nat.lt_of_lt_of_le hi w.2.2.2)]; rfl
  exact va_alen C.1 C.2.1 C.2.2.2.2.2.2.2.2.2.2.2.2.2.2.2.1 w.1 i 0 h1 rfl rfl hd (k p e s m args below meth c H locs ls C w hl)
theorem fr_alenR {i N t0 : Nat} {f : Nat → Option Nat} (hi : i < n) (hM : M i = aR 2 N f) (hd : decode cc pc = .ok (.arraylength, 1)) (k : Fr Γ l (y, cc, nL, ret, R, mc, ms) (pc + 1) L (.int (nI N) :: st) n k1 k2 M r n' M') : Fr Γ l (y, cc, nL, ret, R, mc, ms) pc L (.ref i :: st) n k1 k2 M r n' M' := by
  intro p e s m args below meth c H locs ls C w hl
  have h1 : (a_w Γ n M)[i]? = some (a_ad Γ i, .inl (Γ.2.2.1 2, N, .inr (.inr (.inr (.inr (fun j => (f j).map (a_ad Γ))))))) := by rw [a_w_at hi, hM, a_ad_lt (Nat.lt_of_lt_of_le hi w.2.2.2)]; rfl
  exact va_alen C.1 C.2.1 C.2.2.2.2.2.2.2.2.2.2.2.2.2.2.2.1 w.1 i 2 h1 rfl rfl hd (k p e s m args below meth c H locs ls C w hl)
theorem fr_aald {i N : Nat} {f : Nat → Option Nat} {v : Nat} {x : Int32} (j : Nat) (hx : x = nI j) (hi : i < n) (hM : M i = aR 2 N f) (hj : j < N) (hN : N < 2 ^ 31) (hv : f j = some v) (hd : decode cc pc = .ok (.aaload, 1)) (k : Fr Γ l (y, cc, nL, ret, R, mc, ms) (pc + 1) L (.ref v :: st) n k1 k2 M r n' M') : Fr Γ l (y, cc, nL, ret, R, mc, ms) pc L (.int x :: .ref i :: st) n k1 k2 M r n' M' := by
  intro p e s m args below meth c H locs ls C w hl
  subst hx
  have h1 : (a_w Γ n M)[i]? = some (a_ad Γ i, .inl (Γ.2.2.1 2, N, .inr (.inr (.inr (.inr (fun j => (f j).map (a_ad Γ))))))) := by rw [a_w_at hi, hM, a_ad_lt (Nat.lt_of_lt_of_le hi w.2.2.2)]; rfl
  refine va_aldq C.1 C.2.1 C.2.2.2.2.2.2.2.2.2.2.2.2.2.2.2.1 w.1 i 2 h1 rfl (vp_in_nI hj hN) hd ?_
  rw [nI_clamp (Nat.lt_trans hj hN), hv]
  exact k p e s m args below meth c H locs ls C w hl
theorem a_sz {Γ : aG} {p : Program} {l : Launch} {e : Env} {R : Room} {s : State} {m : MethodId} {args : Array Value} {below : List Frame} {meth : Method} {c : Code} {H : Heap} {locs : List Loc} {n k1 k2 : Nat} {M : Nat → aC} {Q : State → Prop} {g : JFrame} (hg : Γ.2.1 ≤ s.heap.size) (w : a_W Γ s n k1 M H locs) (kk : H.size = Γ.2.1 + n → W p l e R s m args below meth c H locs k1 k2 Q g) : W p l e R s m args below meth c H locs k1 k2 Q g := by
  intro T hT X
  refine kk ?_ T hT X
  have h1 := X.heapSize
  rw [hT, w.2.1] at h1
  cases n with
  | zero =>
    have := w.2.2.1.1
    omega
  | succ j =>
    have h2 := (w.1 j _ (a_w_at (Nat.lt_succ_self j))).lt
    have h3 : Γ.2.1 + j < H.size := h2
    omega
theorem a_call {Γ : aG} {p : Program} {l : Launch} {e : Env} {R : Room} {s : State} {m : MethodId} {args : Array Value} {below : List Frame} {meth : Method} {c : Code} {H : Heap} {locs : List Loc} {cells slots mc ms n' pc : Nat} {M' : Nat → aC} {Q : State → Prop} {ls : Array Slot} {st0 rest : List Value} {v : Option Value} {a : Array Value} (hr : va_Run p l e R s m args below meth c H locs cells slots mc ms (F0 m pc ls st0) rest (a_Q Γ v n' M' a) (a_A Γ)) (hS : va_S (a_A Γ) s.heap H locs)
    (kk : ∀ (H1 : Heap) (locs1 : List Loc), va_P Γ.1 vwCl (a_w Γ n' M') H1 → n' ≤ 1000 → va_S (a_A Γ) s.heap H1 locs1 → W p l e R s m args below meth c H1 locs1 (cells + mc) (slots + ms) Q (F0 m (pc + 3) ls ((v.map (a_v Γ)).toList ++ rest))) : W p l e R s m args below meth c H locs cells slots Q (F0 m pc ls st0) := by
  intro T hT X
  obtain ⟨v1, st₀, t, T', L, h0, X', hL, e1, e2, ⟨hv, hP, hn, hz, hk⟩, st⟩ := hr T hT X
  cases hv
  rw [h0] at hz hk
  obtain ⟨t2, a1, b1⟩ := kk T'.heap (locs ++ L) (by rw [e1]; exact hP) hn
    ⟨Nat.le_trans hS.1 (by rw [e1]; exact hz), fun q h1 h2 => by rw [e1, hk q (Nat.lt_of_lt_of_le h1 hS.1) h2]; exact hS.2.1 q h1 h2, fun q hq => by
      rcases List.mem_append.mp hq with h | h
      · exact hS.2.2 q h
      · exact hL q h⟩ T' rfl X'
  exact ⟨t2, st t2 a1, b1⟩
theorem a_pre {Γ : aG} {s : State} {H : Heap} {locs : List Loc} {n k1 : Nat} {M : Nat → aC} {As : List Value} (hs : a_S Γ s) (w : a_W Γ s n k1 M H locs) (hz : H.size = Γ.2.1 + n) : ∀ U : State, U.heap = H → s.WarmedH U.vm → a_P Γ As n M (As.map (a_v Γ)).toArray U :=
  fun U hU hW => ⟨rfl, a_S.next hW hU w.2.2.1 hs, by rw [hU]; exact w.1, by rw [hU]; exact hz, w.2.2.2⟩
theorem fr_callS {ix a : Nat} {x : MethodName} {b : ByteArray} {nL1 : Nat} {rt : Option FieldType} {R1 : Room} {mc1 ms1 : Nat} {v : Option Value} {n1 : Nat} {M1 : Nat → aC} (As : List Value) (rest : List Value) (hE : Ev Γ l (x, b, nL1, rt, R1, mc1, ms1) As n M v n1 M1) (g : g_S y.cls ix x b nL1 rt a) (hst : st = As.reverse ++ rest) (ha : As.length = a) (hR : R1.cells = mc1 ∧ R1.slots = ms1 ∧ R1.frames + 1 ≤ R.frames ∧ 8 + (nL1 + 11) + R1.locals ≤ R.locals ∧ k1 + mc1 ≤ R.cells ∧ k2 + ms1 ≤ R.slots) (hw8 : (rest.map fun v => v.category).sum ≤ 8) (hn1 : n1 = n + mc1) (hd : decode cc pc = .ok (.invokestatic ix, 3)) (k : Fr Γ l (y, cc, nL, ret, R, mc, ms) (pc + 3) L (v.toList ++ rest) (n + mc1) (k1 + mc1) (k2 + ms1) M1 r n' M') : Fr Γ l (y, cc, nL, ret, R, mc, ms) pc L st n k1 k2 M r n' M' := by
  intro p e s m args below meth c H locs ls C w hl
  refine a_sz C.2.2.2.2.2.2.2.2.2.2.2.2.2.2.2.2 w (fun hz => ?_)
  have hcat : 2 * (F0 m pc ls (st.map (a_v Γ))).monitorRoom + ((rest.map (a_v Γ)).map fun v => v.category).sum ≤ 8 := by
    have e1 : ((rest.map (a_v Γ)).map fun v => v.category) = rest.map fun v => v.category := by
      rw [List.map_map]
      exact List.map_congr_left (fun v _ => a_v_cat Γ v)
    rw [e1]
    show 2 * 0 + _ ≤ 8
    rw [Nat.mul_zero, Nat.zero_add]
    exact hw8
  have cb := callB_of (s := s) (args := args) (own := y.cls) (index := ix) (y := x) (bytes := b) (maxL := nL1) (ret := rt) (ws := .code x b nL1 rt :: tG) (ws' := tG) (rm := R1) (mc := mc1) (ms := ms1) (R := R) a C.2.2.2.2.2.1 (tG_good g.2.2.2.1 (fun w h => h)) rfl hR.1 hR.2.1 (C.2.2.2.2.2.1 _ g.2.2.1) (C.2.2.2.2.2.1 _ g.1) ⟨g.2.2.2.2.1, g.2.2.2.2.2.1, g.2.2.2.2.2.2⟩ ⟨hR.2.2.1, hR.2.2.2.1⟩
  refine a_call (va_runS (As := As.map (a_v Γ)) (rest := rest.map (a_v Γ)) ⟨C.1, C.2.1, C.2.2.2.1, C.2.2.2.2.1, C.2.2.2.2.2.1⟩ hE ⟨cb, C.2.2.2.2.2.1 _ g.2.1⟩ ⟨a_blind, a_pre C.2.2.2.2.2.2.2.2 w hz⟩ rfl (by rw [List.length_map]; exact ha) hl.1 (by show st.map (a_v Γ) = _; rw [hst, List.map_append, List.map_reverse]) hcat hd ⟨hR.2.2.2.2.1, hR.2.2.2.2.2⟩) w.2.2.1 (fun H1 locs1 q1 q2 q3 => ?_)
  subst hn1
  have e2 : (v.map (a_v Γ)).toList ++ rest.map (a_v Γ) = (v.toList ++ rest).map (a_v Γ) := by cases v <;> rfl
  rw [e2]
  exact k p e s m args below meth c H1 locs1 ls C ⟨q1, by have := w.2.1; omega, q3, q2⟩ hl
theorem fr_callV {ix a : Nat} {x : MethodName} {b : ByteArray} {nL1 : Nat} {rt : Option FieldType} {R1 : Room} {mc1 ms1 : Nat} {v : Option Value} {n1 : Nat} {M1 : Nat → aC} {i ci N : Nat} {T : u_T} {fs : List Value} (As : List Value) (rest : List Value) (hE : Ev Γ l (x, b, nL1, rt, R1, mc1, ms1) (.ref i :: As) n M v n1 M1) (g : g_V y.cls ix x b nL1 rt a) (hst : st = As.reverse ++ .ref i :: rest) (ha : As.length = a) (hR : R1.cells = mc1 ∧ R1.slots = ms1 ∧ R1.frames + 1 ≤ R.frames ∧ 8 + (nL1 + 11) + R1.locals ≤ R.locals ∧ k1 + mc1 ≤ R.cells ∧ k2 + ms1 ≤ R.slots) (hw8 : (rest.map fun v => v.category).sum ≤ 8) (hn1 : n1 = n + mc1) (hc : vwCl[ci]? = some (x.cls, T, N)) (hi : i < n) (hM : M i = aO ci fs) (hd : decode cc pc = .ok (.invokevirtual ix, 3)) (k : Fr Γ l (y, cc, nL, ret, R, mc, ms) (pc + 3) L (v.toList ++ rest) (n + mc1) (k1 + mc1) (k2 + ms1) M1 r n' M') : Fr Γ l (y, cc, nL, ret, R, mc, ms) pc L st n k1 k2 M r n' M' := by
  intro p e s m args below meth c H locs ls C w hl
  refine a_sz C.2.2.2.2.2.2.2.2.2.2.2.2.2.2.2.2 w (fun hz => ?_)
  have hcat : 2 * (F0 m pc ls (st.map (a_v Γ))).monitorRoom + ((rest.map (a_v Γ)).map fun v => v.category).sum ≤ 8 := by
    have e1 : ((rest.map (a_v Γ)).map fun v => v.category) = rest.map fun v => v.category := by
      rw [List.map_map]
      exact List.map_congr_left (fun v _ => a_v_cat Γ v)
    rw [e1]
    show 2 * 0 + _ ≤ 8
    rw [Nat.mul_zero, Nat.zero_add]
    exact hw8
  have cb := callB_of (s := s) (args := args) (own := y.cls) (index := ix) (y := x) (bytes := b) (maxL := nL1) (ret := rt) (ws := .code x b nL1 rt :: tG) (ws' := tG) (rm := R1) (mc := mc1) (ms := ms1) (R := R) a C.2.2.2.2.2.1 (tG_good g.2.2.2.2.1 (fun w h => h)) rfl hR.1 hR.2.1 (C.2.2.2.2.2.1 _ g.2.2.2.1) (C.2.2.2.2.2.1 _ g.1) ⟨g.2.2.2.2.2.1, g.2.2.2.2.2.2.1, g.2.2.2.2.2.2.2⟩ ⟨hR.2.2.1, hR.2.2.2.1⟩
  have h1 : (a_w Γ n M)[i]? = some (a_ad Γ i, .inr (ci, fs.map (a_v Γ))) := by rw [a_w_at hi, hM, a_ad_lt (Nat.lt_of_lt_of_le hi w.2.2.2)]; rfl
  refine a_call (va_runV (b := a_ad Γ i) (C := x.cls) (As := As.map (a_v Γ)) (rest := rest.map (a_v Γ)) ⟨C.1, C.2.1, C.2.2.2.1, C.2.2.2.2.1, C.2.2.2.2.2.1⟩ hE ⟨cb, C.2.2.2.2.2.1 _ g.2.1, C.2.2.2.2.2.1 _ g.2.2.1⟩ ⟨a_blind, va_recv C.2.2.2.2.2.2.2.2.2.2.2.2.2.2.2.1 w.1 hc h1, a_pre C.2.2.2.2.2.2.2.2 w hz⟩ rfl (by rw [List.length_map]; exact ha) hl.1 (by show st.map (a_v Γ) = _; rw [hst, List.map_append, List.map_reverse]; rfl) hcat hd ⟨hR.2.2.2.2.1, hR.2.2.2.2.2⟩) w.2.2.1 (fun H1 locs1 q1 q2 q3 => ?_)
  subst hn1
  have e2 : (v.map (a_v Γ)).toList ++ rest.map (a_v Γ) = (v.toList ++ rest).map (a_v Γ) := by cases v <;> rfl
  rw [e2]
  exact k p e s m args below meth c H1 locs1 ls C ⟨q1, by have := w.2.1; omega, q3, q2⟩ hl
theorem fr_callI {ix a : Nat} {x : MethodName} {b : ByteArray} {nL1 : Nat} {R1 : Room} {mc1 ms1 : Nat} {v : Option Value} {n1 : Nat} {M1 : Nat → aC} {i : Nat} (As : List Value) (rest : List Value) (hE : Ev Γ l (x, b, nL1, none, R1, mc1, ms1) (.ref i :: As) n M v n1 M1) (g : g_I y.cls ix x b nL1 a) (hst : st = As.reverse ++ .ref i :: rest) (ha : As.length = a) (hR : R1.cells = mc1 ∧ R1.slots = ms1 ∧ R1.frames + 1 ≤ R.frames ∧ 8 + (nL1 + 11) + R1.locals ≤ R.locals ∧ k1 + mc1 ≤ R.cells ∧ k2 + ms1 ≤ R.slots) (hw8 : (rest.map fun v => v.category).sum ≤ 8) (hn1 : n1 = n + mc1) (hd : decode cc pc = .ok (.invokespecial ix, 3)) (k : Fr Γ l (y, cc, nL, ret, R, mc, ms) (pc + 3) L (v.toList ++ rest) (n + mc1) (k1 + mc1) (k2 + ms1) M1 r n' M') : Fr Γ l (y, cc, nL, ret, R, mc, ms) pc L st n k1 k2 M r n' M' := by
  intro p e s m args below meth c H locs ls C w hl
  refine a_sz C.2.2.2.2.2.2.2.2.2.2.2.2.2.2.2.2 w (fun hz => ?_)
  have hcat : 2 * (F0 m pc ls (st.map (a_v Γ))).monitorRoom + ((rest.map (a_v Γ)).map fun v => v.category).sum ≤ 8 := by
    have e1 : ((rest.map (a_v Γ)).map fun v => v.category) = rest.map fun v => v.category := by
      rw [List.map_map]
      exact List.map_congr_left (fun v _ => a_v_cat Γ v)
    rw [e1]
    show 2 * 0 + _ ≤ 8
    rw [Nat.mul_zero, Nat.zero_add]
    exact hw8
  have cb := callB_of (s := s) (args := args) (own := y.cls) (index := ix) (y := x) (bytes := b) (maxL := nL1) (ret := none) (ws := .code x b nL1 none :: tG) (ws' := tG) (rm := R1) (mc := mc1) (ms := ms1) (R := R) a C.2.2.2.2.2.1 (tG_good g.2.2.2.1 (fun w h => h)) rfl hR.1 hR.2.1 (C.2.2.2.2.2.1 _ g.2.2.1) (C.2.2.2.2.2.1 _ g.1) ⟨g.2.2.2.2.1, g.2.2.2.2.2.1, g.2.2.2.2.2.2.2⟩ ⟨hR.2.2.1, hR.2.2.2.1⟩
  refine a_call (va_runI (b := a_ad Γ i) (As := As.map (a_v Γ)) (rest := rest.map (a_v Γ)) ⟨C.1, C.2.1, C.2.2.2.1, C.2.2.2.2.1, C.2.2.2.2.2.1⟩ hE ⟨cb, g.2.2.2.2.2.2.1, C.2.2.2.2.2.1 _ g.2.1⟩ ⟨a_blind, a_pre C.2.2.2.2.2.2.2.2 w hz⟩ rfl (by rw [List.length_map]; exact ha) hl.1 (by show st.map (a_v Γ) = _; rw [hst, List.map_append, List.map_reverse]; rfl) hcat hd ⟨hR.2.2.2.2.1, hR.2.2.2.2.2⟩) w.2.2.1 (fun H1 locs1 q1 q2 q3 => ?_)
  subst hn1
  have e2 : (v.map (a_v Γ)).toList ++ rest.map (a_v Γ) = (v.toList ++ rest).map (a_v Γ) := by cases v <;> rfl
  rw [e2]
  exact k p e s m args below meth c H1 locs1 ls C ⟨q1, by have := w.2.1; omega, q3, q2⟩ hl
theorem fr_callN {ix a : Nat} {x : MethodName} {b : ByteArray} {nL1 : Nat} {R1 : Room} {mc1 ms1 : Nat} {v : Option Value} {n1 : Nat} {M1 : Nat → aC} {i : Nat} {host : String} (As : List Value) (rest : List Value) (hE : Ev Γ l (x, b, nL1, none, R1, mc1, ms1) (.ref i :: As) n M v n1 M1) (g : g_N y.cls ix x host b nL1 a) (hst : st = As.reverse ++ .ref i :: rest) (ha : As.length = a) (hR : R1.cells = mc1 ∧ R1.slots = ms1 ∧ R1.frames + 1 ≤ R.frames ∧ 8 + (nL1 + 11) + R1.locals ≤ R.locals ∧ k1 + mc1 ≤ R.cells ∧ k2 + ms1 ≤ R.slots) (hw8 : (rest.map fun v => v.category).sum ≤ 8) (hn1 : n1 = n + mc1) (hd : decode cc pc = .ok (.invokespecial ix, 3)) (k : Fr Γ l (y, cc, nL, ret, R, mc, ms) (pc + 3) L (v.toList ++ rest) (n + mc1) (k1 + mc1) (k2 + ms1) M1 r n' M') : Fr Γ l (y, cc, nL, ret, R, mc, ms) pc L st n k1 k2 M r n' M' := by
  intro p e s m args below meth c H locs ls C w hl
  refine a_sz C.2.2.2.2.2.2.2.2.2.2.2.2.2.2.2.2 w (fun hz => ?_)
  have hcat : 2 * (F0 m pc ls (st.map (a_v Γ))).monitorRoom + ((rest.map (a_v Γ)).map fun v => v.category).sum ≤ 8 := by
    have e1 : ((rest.map (a_v Γ)).map fun v => v.category) = rest.map fun v => v.category := by
      rw [List.map_map]
      exact List.map_congr_left (fun v _ => a_v_cat Γ v)
    rw [e1]
    show 2 * 0 + _ ≤ 8
    rw [Nat.mul_zero, Nat.zero_add]
    exact hw8
  have cb := va_cnB (s := s) (args := args) (own := y.cls) (host := host) (index := ix) (y := x) (bytes := b) (maxL := nL1) (ret := none) (ws := .code x b nL1 none :: tG) (ws' := tG) (rm := R1) (mc := mc1) (ms := ms1) (R := R) a C.2.2.2.2.2.1 (tG_good g.2.2.2.1 (fun w h => h)) rfl hR.1 hR.2.1 (C.2.2.2.2.2.2.2.2.2.2.2.2.1 _ g.1) (C.2.2.2.2.2.1 _ g.2.2.1) ⟨g.2.2.2.2.1, g.2.2.2.2.2.1, g.2.2.2.2.2.2.2⟩ ⟨hR.2.2.1, hR.2.2.2.1⟩
  refine a_call (va_runIN (b := a_ad Γ i) (As := As.map (a_v Γ)) (rest := rest.map (a_v Γ)) ⟨C.1, C.2.1, C.2.2.2.1, C.2.2.2.2.1, C.2.2.2.2.2.1⟩ hE ⟨cb, g.2.2.2.2.2.2.1, C.2.2.2.2.2.1 _ g.2.1⟩ ⟨a_blind, a_pre C.2.2.2.2.2.2.2.2 w hz⟩ rfl (by rw [List.length_map]; exact ha) hl.1 (by show st.map (a_v Γ) = _; rw [hst, List.map_append, List.map_reverse]; rfl) hcat hd ⟨hR.2.2.2.2.1, hR.2.2.2.2.2⟩) w.2.2.1 (fun H1 locs1 q1 q2 q3 => ?_)
  subst hn1
  have e2 : (v.map (a_v Γ)).toList ++ rest.map (a_v Γ) = (v.toList ++ rest).map (a_v Γ) := by cases v <;> rfl
  rw [e2]
  exact k p e s m args below meth c H1 locs1 ls C ⟨q1, by have := w.2.1; omega, q3, q2⟩ hl
theorem fr_mmax {ix : Nat} {x z : Int32} (h1 : Cond.methodLink y.cls ix Lib.Math.max.name ∈ tG) (h2 : Cond.static Lib.Math.max.name ∈ tG) (h3 : Cond.initialized "java/lang/Math" ∈ tG) (h4 : Cond.code Lib.Math.max.name Lib.Math.max.code 2 (some .int) ∈ tG) (hR : 1 ≤ R.frames ∧ 21 ≤ R.locals ∧ k1 ≤ R.cells ∧ k2 ≤ R.slots) (hw8 : (st.map fun v => v.category).sum ≤ 8) (hd : decode cc pc = .ok (.invokestatic ix, 3)) (k : Fr Γ l (y, cc, nL, ret, R, mc, ms) (pc + 3) L (.int (if x < z then z else x) :: st) n k1 k2 M r n' M') : Fr Γ l (y, cc, nL, ret, R, mc, ms) pc L (.int z :: .int x :: st) n k1 k2 M r n' M' := by
  intro p e s m args below meth c H locs ls C w hl
  have e1 : ((st.map (a_v Γ)).map fun v => v.category) = st.map fun v => v.category := by
    rw [List.map_map]
    exact List.map_congr_left (fun v _ => a_v_cat Γ v)
  refine va_mmax C.1 C.2.1 (C.2.2.2.1.trans hl.1.symm) C.2.2.2.2.1 (C.2.2.2.2.2.1 _ h1) (C.2.2.2.2.2.1 _ h2) (C.2.2.2.2.2.1 _ h3) (C.2.2.2.2.2.1 _ h4) hR.1 (by rw [e1]; show _ ≤ R.locals; have := hR.2.1; omega) hR.2.2.1 hR.2.2.2 hd ?_
  exact k p e s m args below meth c H locs ls C w hl
theorem fr_mmin {ix : Nat} {x z : Int32} (h1 : Cond.methodLink y.cls ix Lib.Math.min.name ∈ tG) (h2 : Cond.static Lib.Math.min.name ∈ tG) (h3 : Cond.initialized "java/lang/Math" ∈ tG) (h4 : Cond.code Lib.Math.min.name Lib.Math.min.code 2 (some .int) ∈ tG) (hR : 1 ≤ R.frames ∧ 21 ≤ R.locals ∧ k1 ≤ R.cells ∧ k2 ≤ R.slots) (hw8 : (st.map fun v => v.category).sum ≤ 8) (hd : decode cc pc = .ok (.invokestatic ix, 3)) (k : Fr Γ l (y, cc, nL, ret, R, mc, ms) (pc + 3) L (.int (if z < x then z else x) :: st) n k1 k2 M r n' M') : Fr Γ l (y, cc, nL, ret, R, mc, ms) pc L (.int z :: .int x :: st) n k1 k2 M r n' M' := by
  intro p e s m args below meth c H locs ls C w hl
  have e1 : ((st.map (a_v Γ)).map fun v => v.category) = st.map fun v => v.category := by
    rw [List.map_map]
    exact List.map_congr_left (fun v _ => a_v_cat Γ v)
  refine va_mmin C.1 C.2.1 (C.2.2.2.1.trans hl.1.symm) C.2.2.2.2.1 (C.2.2.2.2.2.1 _ h1) (C.2.2.2.2.2.1 _ h2) (C.2.2.2.2.2.1 _ h3) (C.2.2.2.2.2.1 _ h4) hR.1 (by rw [e1]; show _ ≤ R.locals; have := hR.2.1; omega) hR.2.2.1 hR.2.2.2 hd ?_
  exact k p e s m args below meth c H locs ls C w hl
theorem fr_acopy {ix i0 i1 N0 N1 sp dp q : Nat} {f g : Nat → Int32} (h1 : Cond.methodLink y.cls ix arraycopyName ∈ tG) (h2 : Cond.native arraycopyName ∈ tG) (h3 : Cond.static arraycopyName ∈ tG) (h4 : Cond.initialized "java/lang/System" ∈ tG) (hR : 1 ≤ R.frames ∧ 8 + (nativeFrameWords "java/lang/System" "arraycopy" 5 + 11) ≤ R.locals) (hw8 : (st.map fun v => v.category).sum ≤ 8) (hi0 : i0 < n) (hi1 : i1 < n) (hM0 : M i0 = aI N0 f) (hM1 : M i1 = aI N1 g) (hb0 : sp + q ≤ N0) (hb1 : dp + q ≤ N1) (hN0 : N0 < 2 ^ 31) (hN1 : N1 < 2 ^ 31) (hd : decode cc pc = .ok (.invokestatic ix, 3)) (k : Fr Γ l (y, cc, nL, ret, R, mc, ms) (pc + 3) L st n k1 k2 (a_up M i1 (aI N1 (va_cpy f g sp dp q))) r n' M') : Fr Γ l (y, cc, nL, ret, R, mc, ms) pc L (.int (nI q) :: .int (nI dp) :: .ref i1 :: .int (nI sp) :: .ref i0 :: st) n k1 k2 M r n' M' := by
  intro p e s m args below meth c H locs ls C w hl
  have e1 : ((st.map (a_v Γ)).map fun v => v.category) = st.map fun v => v.category := by
    rw [List.map_map]
    exact List.map_congr_left (fun v _ => a_v_cat Γ v)
  have g0 : (a_w Γ n M)[i0]? = some (a_ad Γ i0, .inl (Γ.2.2.1 0, N0, .inl f)) := by rw [a_w_at hi0, hM0, a_ad_lt (Nat.lt_of_lt_of_le hi0 w.2.2.2)]; rfl
  have g1 : (a_w Γ n M)[i1]? = some (a_ad Γ i1, .inl (Γ.2.2.1 0, N1, .inl g)) := by rw [a_w_at hi1, hM1, a_ad_lt (Nat.lt_of_lt_of_le hi1 w.2.2.2)]; rfl
  have c1 : (nI sp).toNatClampNeg = sp := nI_clamp (by omega)
  have c2 : (nI dp).toNatClampNeg = dp := nI_clamp (by omega)
  have c3 : (nI q).toNatClampNeg = q := nI_clamp (by omega)
  refine va_copyi C.1 C.2.1 (C.2.2.2.1.trans hl.1.symm) C.2.2.2.2.1 (C.2.2.2.2.2.1 _ h1) (C.2.2.2.2.2.1 _ h2) (C.2.2.2.2.2.1 _ h3) (C.2.2.2.2.2.1 _ h4) C.2.2.2.2.2.2.2.2.2.2.2.2.2.2.2.1 w.1 a_w_D w.2.2.1 i0 i1 0 0 g0 g1 rfl rfl rfl (nI_pos (by omega)) (nI_pos (by omega)) (nI_pos (by omega)) (by rw [c1, c3]; exact hb0) (by rw [c2, c3]; exact hb1) (fun i _ => rfl) hR.1 (by rw [e1]; show _ ≤ R.locals; have := hR.2; omega) hd (fun H1 locs1 q1 _ q3 => ?_)
  rw [c1, c2, c3] at q1
  have e2 : (a_w Γ n M).set i1 (a_ad Γ i1, .inl (Γ.2.2.1 0, N1, .inl (va_cpy f g sp dp q))) = a_w Γ n (a_up M i1 (aI N1 (va_cpy f g sp dp q))) := by
    rw [← a_w_set, a_ad_lt (Nat.lt_of_lt_of_le hi1 w.2.2.2)]
    rfl
  rw [e2] at q1
  exact k p e s m args below meth c H1 locs1 ls C ⟨q1, w.2.1, q3, w.2.2.2⟩ hl
theorem fr_objInit {ix i : Nat} (h1 : Cond.methodLink y.cls ix Lib.objectInit ∈ tG) (h2 : Cond.instanceMethod Lib.objectInit ∈ tG) (h3 : Cond.code Lib.objectInit ⟨#[0xb1]⟩ 1 none ∈ tG) (hR : 1 ≤ R.frames ∧ 20 ≤ R.locals) (hw8 : (st.map fun v => v.category).sum ≤ 8) (hd : decode cc pc = .ok (.invokespecial ix, 3)) (k : Fr Γ l (y, cc, nL, ret, R, mc, ms) (pc + 3) L st n k1 k2 M r n' M') : Fr Γ l (y, cc, nL, ret, R, mc, ms) pc L (.ref i :: st) n k1 k2 M r n' M' := by
  intro p e s m args below meth c H locs ls C w hl
  have e1 : ((st.map (a_v Γ)).map fun v => v.category) = st.map fun v => v.category := by
    rw [List.map_map]
    exact List.map_congr_left (fun v _ => a_v_cat Γ v)
  refine W.objInit C.1 C.2.1 C.2.2.2.2.1 (C.2.2.2.2.2.1 _ h1) (C.2.2.2.2.2.1 _ h2) (C.2.2.2.2.2.1 _ h3) rfl (hl.1.trans C.2.2.2.1.symm) (a := a_ad Γ i) (rest := st.map (a_v Γ)) rfl hd hR.1 (by rw [e1]; show 2 * 0 + _ + 12 ≤ R.locals; have := hR.2; omega) ?_
  exact k p e s m args below meth c H locs ls C w hl
theorem fr_new {ix ci N : Nat} {T : u_T} {Cn : String} (fs : List Value) (ty : Nat → FieldType) (hty : ∀ k, k < N → parseFieldDescriptor (T k).2.2.1 = some (ty k)) (hc : vwCl[ci]? = some (Cn, T, N)) (hin : ∀ w ∈ u_ws Cn T N, w ∈ tG) (h1 : Cond.classLink y.cls ix Cn ∈ tG) (h2 : Cond.instantiable Cn N ∈ tG) (h3 : Cond.initialized Cn ∈ tG) (hfs : ∀ j, j < N → defaultValue (ty j) = vp_V (fs.map (a_v Γ)) j) (hR : k1 + 1 ≤ R.cells ∧ k2 + N ≤ R.slots) (hn : n + 1 ≤ 1000) (hd : decode cc pc = .ok (.new ix, 3)) (k : Fr Γ l (y, cc, nL, ret, R, mc, ms) (pc + 3) L (.ref n :: st) (n + 1) (k1 + 1) (k2 + N) (a_up M n (aO ci fs)) r n' M') : Fr Γ l (y, cc, nL, ret, R, mc, ms) pc L st n k1 k2 M r n' M' := by
  intro p e s m args below meth c H locs ls C w hl
  refine a_sz C.2.2.2.2.2.2.2.2.2.2.2.2.2.2.2.2 w (fun hz => ?_)
  have hKn := C.2.2.2.2.2.2.2.2.2.2.2.2.2.2.2.1.1 ci _ hc
  refine W.newcK C.1 C.2.1 C.2.2.2.2.1 (C.2.2.2.2.2.1 _ h1) (C.2.2.2.2.2.1 _ h2) (C.2.2.2.2.2.1 _ h3) rfl hd hR.1 hR.2 hKn.2.1 hz fun H1 kC hkC e1 z1 o1 => ?_
  rw [← a_ad_lt (Γ := Γ) (show n < 1000 by omega)] at e1
  have hk : ∀ (k : Nat) (x : Nat × va_E), (a_w Γ n M)[k]? = some x → H1[x.1]? = H[x.1]? := fun k x hx => o1 x.1 (by rw [← hz]; exact (w.1 k x hx).lt)
  have hP : va_P Γ.1 vwCl (a_w Γ (n + 1) (a_up M n (aO ci fs))) H1 := by
    rw [← a_w_push]
    refine (w.1.kept hk).app (fun k x hx => ?_)
    have hz : k < 1 := (List.getElem?_eq_some_iff.mp hx).1
    rw [show k = 0 by omega] at hx
    cases hx
    rw [a_ad_lt (Γ := Γ) (show n < 1000 by omega)] at e1
    exact ⟨_, hc, (u_born ty C.2.2.2.2.2.1 hin hKn hkC e1 hty).to hfs⟩
  have hS : va_S (a_A Γ) s.heap H1 locs := ⟨Nat.le_trans w.2.2.1.1 (by omega), fun x g1 g2 => (o1 x (by rw [← hz]; exact Nat.lt_of_lt_of_le g1 w.2.2.1.1)).trans (w.2.2.1.2.1 x g1 g2), w.2.2.1.2.2⟩
  rw [← a_ad_lt (Γ := Γ) (show n < 1000 by omega)]
  exact k p e s m args below meth c H1 locs ls C ⟨hP, by have := w.2.1; omega, hS, hn⟩ hl
theorem fr_newa {N : Nat} (h1 : Cond.arrayClass .int ∈ tG) (hN : N < 2 ^ 20) (hR : k1 + 1 ≤ R.cells ∧ k2 + N ≤ R.slots) (hn : n + 1 ≤ 1000) (hd : decode cc pc = .ok (.newarray .int, 2)) (k : Fr Γ l (y, cc, nL, ret, R, mc, ms) (pc + 2) L (.ref n :: st) (n + 1) (k1 + 1) (k2 + N) (a_up M n (aI N (fun _ => 0))) r n' M') : Fr Γ l (y, cc, nL, ret, R, mc, ms) pc L (.int (nI N) :: st) n k1 k2 M r n' M' := by
  intro p e s m args below meth c H locs ls C w hl
  refine a_sz C.2.2.2.2.2.2.2.2.2.2.2.2.2.2.2.2 w (fun hz => ?_)
  have hb4 : N * componentBytes (newarray.typeOf .int) ≤ 536870912 := by show N * 4 ≤ _; omega
  refine va_newaK (atype := .int) C.1 C.2.1 (C.2.2.2.2.2.1 _ h1) rfl hd (n := nI N) (N := N) rfl (nI_pos (by omega)) (nI_clamp (by omega)) hb4 hR.1 hR.2 hz fun H1 cA e1 z1 o1 hAr hNm => ?_
  have hcA : cA = Γ.2.2.1 0 := by
    have h9 := (C.2.2.2.2.2.2.2.2.2.2.2.2.2.2.2.1.2 0 _ rfl).2
    exact Option.some.inj (hNm.symm.trans h9)
  have hk : ∀ (k : Nat) (x : Nat × va_E), (a_w Γ n M)[k]? = some x → H1[x.1]? = H[x.1]? := fun k x hx => o1 x.1 (by rw [← hz]; exact (w.1 k x hx).lt)
  have hP : va_P Γ.1 vwCl (a_w Γ (n + 1) (a_up M n (aI N (fun _ => 0)))) H1 := by
    rw [← a_w_push]
    refine (w.1.kept hk).app (fun k x hx => ?_)
    have hz : k < 1 := (List.getElem?_eq_some_iff.mp hx).1
    rw [show k = 0 by omega] at hx
    cases hx
    show H1[Γ.2.1 + n]? = some (vp_cell (Γ.2.2.1 0) (N, .inl (fun _ => 0)))
    rw [vp_cell_i, ← hcA]
    exact e1
  have hS : va_S (a_A Γ) s.heap H1 locs := ⟨Nat.le_trans w.2.2.1.1 (by omega), fun x g1 g2 => (o1 x (by rw [← hz]; exact Nat.lt_of_lt_of_le g1 w.2.2.1.1)).trans (w.2.2.1.2.1 x g1 g2), w.2.2.1.2.2⟩
  rw [← a_ad_lt (Γ := Γ) (show n < 1000 by omega)]
  exact k p e s m args below meth c H1 locs ls C ⟨hP, by have := w.2.1; omega, hS, hn⟩ hl
theorem fr_gsA {ix k0 : Nat} (hk : k0 < 4) (hw : Cond.fieldLink y.cls ix (a_sa k0).1 (a_sa k0).2.1 "[I" ∈ tG) (hd : decode cc pc = .ok (.getstatic ix, 3)) (k : Fr Γ l (y, cc, nL, ret, R, mc, ms) (pc + 3) L (.ref (1000 + k0) :: st) n k1 k2 M r n' M') : Fr Γ l (y, cc, nL, ret, R, mc, ms) pc L st n k1 k2 M r n' M' := by
  intro p e s m args below meth c H locs ls C w hl
  have e1 : a_ad Γ (1000 + k0) = Γ.2.2.2 (1000 + k0) := if_neg (by omega)
  have k2 := k p e s m args below meth c H locs ls C w hl
  rw [show ((Value.ref (1000 + k0) :: st).map (a_v Γ)) = .ref (a_ad Γ (1000 + k0)) :: st.map (a_v Γ) from rfl, e1] at k2
  exact va_gets C.1 C.2.1 (C.2.2.2.2.2.2.2.2.1 k0 hk).1 w.2.2.1 C.2.2.2.2.1 (C.2.2.2.2.2.1 _ hw) (fun _ h => h) hd k2
theorem fr_gsN {ix k0 : Nat} {host : String} (hk : k0 < 4) (hw : Cond.fieldLinkNest y.cls ix (a_sa k0).1 (a_sa k0).2.1 "[I" host ∈ a_nw) (hd : decode cc pc = .ok (.getstatic ix, 3)) (k : Fr Γ l (y, cc, nL, ret, R, mc, ms) (pc + 3) L (.ref (1000 + k0) :: st) n k1 k2 M r n' M') : Fr Γ l (y, cc, nL, ret, R, mc, ms) pc L st n k1 k2 M r n' M' := by
  intro p e s m args below meth c H locs ls C w hl
  have e1 : a_ad Γ (1000 + k0) = Γ.2.2.2 (1000 + k0) := if_neg (by omega)
  have k2 := k p e s m args below meth c H locs ls C w hl
  rw [show ((Value.ref (1000 + k0) :: st).map (a_v Γ)) = .ref (a_ad Γ (1000 + k0)) :: st.map (a_v Γ) from rfl, e1] at k2
  exact va_getsN C.1 C.2.1 (C.2.2.2.2.2.2.2.2.1 k0 hk).1 w.2.2.1 C.2.2.2.2.1 (va_Nw.use rfl (C.2.2.2.2.2.2.2.2.2.2.2.2.1 _ hw)) (fun _ h => h) hd k2
theorem fr_ialdS {k0 : Nat} {x : Int32} (j : Nat) (hx : x = nI j) (hk : k0 < 4) (hj : j < (a_sa k0).2.2.length) (hJ : j < 100) (hd : decode cc pc = .ok (.iaload, 1)) (k : Fr Γ l (y, cc, nL, ret, R, mc, ms) (pc + 1) L (.int ((a_sa k0).2.2.getD j 0) :: st) n k1 k2 M r n' M') : Fr Γ l (y, cc, nL, ret, R, mc, ms) pc L (.int x :: .ref (1000 + k0) :: st) n k1 k2 M r n' M' := by
  intro p e s m args below meth c H locs ls C w hl
  subst hx
  have e1 : a_ad Γ (1000 + k0) = Γ.2.2.2 (1000 + k0) := if_neg (by omega)
  have hc : (nI j).toNatClampNeg = j := nI_clamp (by omega)
  rw [show ((Value.int (nI j) :: Value.ref (1000 + k0) :: st).map (a_v Γ)) = .int (nI j) :: .ref (a_ad Γ (1000 + k0)) :: st.map (a_v Γ) from rfl, e1]
  refine va_ti C.1 C.2.1 (C.2.2.2.2.2.2.2.2.1 k0 hk).2 w.2.2.1 (v := .int ((a_sa k0).2.2.getD j 0)) (fun q => ?_) (by rw [hc]) hd (k p e s m args below meth c H locs ls C w hl)
  rcases q with q | q
  · exact nI_pos (by omega) q
  · rw [hc] at q; omega
end A1
end
