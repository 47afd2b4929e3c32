section
-- ===== PART A: goes FIRST, ahead of the names: the tables' words, and 'selects' of the private methods out of them =====
/-- a private method of a class that the tables say can be made, by its rows of tables_1 -/
def lw_okq (q : MethodName × Nat) : Prop := (q.1.cls ≠ "java/lang/invoke/MethodHandle" ∧ q.1.cls ≠ "java/lang/invoke/VarHandle") ∧ Cond.instantiable q.1.cls q.2 ∈ tables_1 ∧ Cond.privateMethod q.1 ∈ tables_1 ∧ Cond.instanceMethod q.1 ∈ tables_1
theorem lw_p0 : lw_okq (⟨"DoorBench$Tape", "expect", "(I)V"⟩, 12) := ⟨⟨by decide +kernel, by decide +kernel⟩, List.mem_of_getElem? (i := 29) (by decide +kernel), List.mem_of_getElem? (i := 138) (by decide +kernel), List.mem_of_getElem? (i := 139) (by decide +kernel)⟩
theorem lw_p1 : lw_okq (⟨"DoorBench$Tape", "nameQuestions", "()V"⟩, 12) := ⟨⟨by decide +kernel, by decide +kernel⟩, List.mem_of_getElem? (i := 29) (by decide +kernel), List.mem_of_getElem? (i := 142) (by decide +kernel), List.mem_of_getElem? (i := 143) (by decide +kernel)⟩
theorem lw_p2 : lw_okq (⟨"DoorBench$Tape", "fail", "()V"⟩, 12) := ⟨⟨by decide +kernel, by decide +kernel⟩, List.mem_of_getElem? (i := 29) (by decide +kernel), List.mem_of_getElem? (i := 146) (by decide +kernel), List.mem_of_getElem? (i := 147) (by decide +kernel)⟩
theorem lw_p3 : lw_okq (⟨"DoorBench$Tape", "anotherPart", "()V"⟩, 12) := ⟨⟨by decide +kernel, by decide +kernel⟩, List.mem_of_getElem? (i := 29) (by decide +kernel), List.mem_of_getElem? (i := 150) (by decide +kernel), List.mem_of_getElem? (i := 151) (by decide +kernel)⟩
theorem lw_p4 : lw_okq (⟨"DoorBench$Tape", "passes", "(I)Z"⟩, 12) := ⟨⟨by decide +kernel, by decide +kernel⟩, List.mem_of_getElem? (i := 29) (by decide +kernel), List.mem_of_getElem? (i := 154) (by decide +kernel), List.mem_of_getElem? (i := 155) (by decide +kernel)⟩
theorem lw_p5 : lw_okq (⟨"DoorBench$Tape", "someQuestions", "()I"⟩, 12) := ⟨⟨by decide +kernel, by decide +kernel⟩, List.mem_of_getElem? (i := 29) (by decide +kernel), List.mem_of_getElem? (i := 158) (by decide +kernel), List.mem_of_getElem? (i := 159) (by decide +kernel)⟩
theorem lw_p6 : lw_okq (⟨"DoorBench$Tape", "questionHere", "()I"⟩, 12) := ⟨⟨by decide +kernel, by decide +kernel⟩, List.mem_of_getElem? (i := 29) (by decide +kernel), List.mem_of_getElem? (i := 162) (by decide +kernel), List.mem_of_getElem? (i := 163) (by decide +kernel)⟩
theorem lw_p7 : lw_okq (⟨"DoorBench$Tape", "tie", "(I)J"⟩, 12) := ⟨⟨by decide +kernel, by decide +kernel⟩, List.mem_of_getElem? (i := 29) (by decide +kernel), List.mem_of_getElem? (i := 166) (by decide +kernel), List.mem_of_getElem? (i := 167) (by decide +kernel)⟩
theorem lw_p8 : lw_okq (⟨"DoorBench$Tape", "either", "(I)J"⟩, 12) := ⟨⟨by decide +kernel, by decide +kernel⟩, List.mem_of_getElem? (i := 29) (by decide +kernel), List.mem_of_getElem? (i := 171) (by decide +kernel), List.mem_of_getElem? (i := 172) (by decide +kernel)⟩
theorem lw_p9 : lw_okq (⟨"DoorBench$Tape", "simple", "(I)J"⟩, 12) := ⟨⟨by decide +kernel, by decide +kernel⟩, List.mem_of_getElem? (i := 29) (by decide +kernel), List.mem_of_getElem? (i := 175) (by decide +kernel), List.mem_of_getElem? (i := 176) (by decide +kernel)⟩
theorem lw_p10 : lw_okq (⟨"DoorBench$Tape", "yesSets", "(I)J"⟩, 12) := ⟨⟨by decide +kernel, by decide +kernel⟩, List.mem_of_getElem? (i := 29) (by decide +kernel), List.mem_of_getElem? (i := 179) (by decide +kernel), List.mem_of_getElem? (i := 180) (by decide +kernel)⟩
theorem lw_p11 : lw_okq (⟨"DoorBench$Tape", "atLeast", "(II)J"⟩, 12) := ⟨⟨by decide +kernel, by decide +kernel⟩, List.mem_of_getElem? (i := 29) (by decide +kernel), List.mem_of_getElem? (i := 185) (by decide +kernel), List.mem_of_getElem? (i := 186) (by decide +kernel)⟩
theorem lw_p12 : lw_okq (⟨"DoorBench$Agenda", "keptWithout", "(II)J"⟩, 14) := ⟨⟨by decide +kernel, by decide +kernel⟩, List.mem_of_getElem? (i := 199) (by decide +kernel), List.mem_of_getElem? (i := 206) (by decide +kernel), List.mem_of_getElem? (i := 207) (by decide +kernel)⟩
theorem lw_p13 : lw_okq (⟨"DoorBench$Agenda", "listSets", "()V"⟩, 14) := ⟨⟨by decide +kernel, by decide +kernel⟩, List.mem_of_getElem? (i := 199) (by decide +kernel), List.mem_of_getElem? (i := 216) (by decide +kernel), List.mem_of_getElem? (i := 217) (by decide +kernel)⟩
theorem lw_p14 : lw_okq (⟨"DoorBench", "found", "(LDoorBench$Agenda;)I"⟩, 13) := ⟨⟨by decide +kernel, by decide +kernel⟩, List.mem_of_getElem? (i := 21) (by decide +kernel), List.mem_of_getElem? (i := 287) (by decide +kernel), List.mem_of_getElem? (i := 288) (by decide +kernel)⟩
theorem lw_p15 : lw_okq (⟨"DoorBench$Agenda", "noneKeeps", "(I)Z"⟩, 14) := ⟨⟨by decide +kernel, by decide +kernel⟩, List.mem_of_getElem? (i := 199) (by decide +kernel), List.mem_of_getElem? (i := 301) (by decide +kernel), List.mem_of_getElem? (i := 302) (by decide +kernel)⟩
def lw_privs_1 : List (MethodName × Nat) := [(⟨"DoorBench$Tape", "expect", "(I)V"⟩, 12), (⟨"DoorBench$Tape", "nameQuestions", "()V"⟩, 12), (⟨"DoorBench$Tape", "fail", "()V"⟩, 12), (⟨"DoorBench$Tape", "anotherPart", "()V"⟩, 12), (⟨"DoorBench$Tape", "passes", "(I)Z"⟩, 12), (⟨"DoorBench$Tape", "someQuestions", "()I"⟩, 12), (⟨"DoorBench$Tape", "questionHere", "()I"⟩, 12), (⟨"DoorBench$Tape", "tie", "(I)J"⟩, 12), (⟨"DoorBench$Tape", "either", "(I)J"⟩, 12), (⟨"DoorBench$Tape", "simple", "(I)J"⟩, 12), (⟨"DoorBench$Tape", "yesSets", "(I)J"⟩, 12), (⟨"DoorBench$Tape", "atLeast", "(II)J"⟩, 12), (⟨"DoorBench$Agenda", "keptWithout", "(II)J"⟩, 14), (⟨"DoorBench$Agenda", "listSets", "()V"⟩, 14), (⟨"DoorBench", "found", "(LDoorBench$Agenda;)I"⟩, 13), (⟨"DoorBench$Agenda", "noneKeeps", "(I)Z"⟩, 14)]
theorem lw_r1 : ∀ q ∈ lw_privs_1, lw_okq q := List.forall_mem_cons.mpr ⟨lw_p0, List.forall_mem_cons.mpr ⟨lw_p1, List.forall_mem_cons.mpr ⟨lw_p2, List.forall_mem_cons.mpr ⟨lw_p3, List.forall_mem_cons.mpr ⟨lw_p4, List.forall_mem_cons.mpr ⟨lw_p5, List.forall_mem_cons.mpr ⟨lw_p6, List.forall_mem_cons.mpr ⟨lw_p7, List.forall_mem_cons.mpr ⟨lw_p8, List.forall_mem_cons.mpr ⟨lw_p9, List.forall_mem_cons.mpr ⟨lw_p10, List.forall_mem_cons.mpr ⟨lw_p11, List.forall_mem_cons.mpr ⟨lw_p12, List.forall_mem_cons.mpr ⟨lw_p13, List.forall_mem_cons.mpr ⟨lw_p14, List.forall_mem_cons.mpr ⟨lw_p15, fun _ h => absurd h List.not_mem_nil⟩⟩⟩⟩⟩⟩⟩⟩⟩⟩⟩⟩⟩⟩⟩⟩
theorem lw_p16 : lw_okq (⟨"DoorBench", "benchOf", "(I)LDoorBench$Bench;"⟩, 13) := ⟨⟨by decide +kernel, by decide +kernel⟩, List.mem_of_getElem? (i := 21) (by decide +kernel), List.mem_of_getElem? (i := 372) (by decide +kernel), List.mem_of_getElem? (i := 373) (by decide +kernel)⟩
theorem lw_p17 : lw_okq (⟨"DoorBench", "agendaOf", "(I)LDoorBench$Agenda;"⟩, 13) := ⟨⟨by decide +kernel, by decide +kernel⟩, List.mem_of_getElem? (i := 21) (by decide +kernel), List.mem_of_getElem? (i := 380) (by decide +kernel), List.mem_of_getElem? (i := 381) (by decide +kernel)⟩
theorem lw_p18 : lw_okq (⟨"DoorBench$Agenda", "setsHaving", "(II)J"⟩, 14) := ⟨⟨by decide +kernel, by decide +kernel⟩, List.mem_of_getElem? (i := 199) (by decide +kernel), List.mem_of_getElem? (i := 397) (by decide +kernel), List.mem_of_getElem? (i := 398) (by decide +kernel)⟩
theorem lw_p19 : lw_okq (⟨"DoorBench$Agenda", "having", "(II)J"⟩, 14) := ⟨⟨by decide +kernel, by decide +kernel⟩, List.mem_of_getElem? (i := 199) (by decide +kernel), List.mem_of_getElem? (i := 414) (by decide +kernel), List.mem_of_getElem? (i := 415) (by decide +kernel)⟩
theorem lw_p20 : lw_okq (⟨"DoorBench", "answersFrom", "(III)I"⟩, 13) := ⟨⟨by decide +kernel, by decide +kernel⟩, List.mem_of_getElem? (i := 21) (by decide +kernel), List.mem_of_getElem? (i := 471) (by decide +kernel), List.mem_of_getElem? (i := 472) (by decide +kernel)⟩
theorem lw_p21 : lw_okq (⟨"DoorBench$Bench", "sumLeans", "()V"⟩, 12) := ⟨⟨by decide +kernel, by decide +kernel⟩, List.mem_of_getElem? (i := 304) (by decide +kernel), List.mem_of_getElem? (i := 517) (by decide +kernel), List.mem_of_getElem? (i := 518) (by decide +kernel)⟩
theorem lw_p22 : lw_okq (⟨"DoorBench$Bench", "leanOf", "(I)I"⟩, 12) := ⟨⟨by decide +kernel, by decide +kernel⟩, List.mem_of_getElem? (i := 304) (by decide +kernel), List.mem_of_getElem? (i := 531) (by decide +kernel), List.mem_of_getElem? (i := 532) (by decide +kernel)⟩
theorem lw_p23 : lw_okq (⟨"DoorBench", "bodyOf", "(III)LDoorBench$Way;"⟩, 13) := ⟨⟨by decide +kernel, by decide +kernel⟩, List.mem_of_getElem? (i := 21) (by decide +kernel), List.mem_of_getElem? (i := 541) (by decide +kernel), List.mem_of_getElem? (i := 542) (by decide +kernel)⟩
theorem lw_p24 : lw_okq (⟨"DoorBench", "bodyAt", "(I)LDoorBench$Way;"⟩, 13) := ⟨⟨by decide +kernel, by decide +kernel⟩, List.mem_of_getElem? (i := 21) (by decide +kernel), List.mem_of_getElem? (i := 663) (by decide +kernel), List.mem_of_getElem? (i := 664) (by decide +kernel)⟩
theorem lw_p25 : lw_okq (⟨"DoorBench$Bench", "isYesInTurn", "(IZ)Z"⟩, 12) := ⟨⟨by decide +kernel, by decide +kernel⟩, List.mem_of_getElem? (i := 304) (by decide +kernel), List.mem_of_getElem? (i := 696) (by decide +kernel), List.mem_of_getElem? (i := 697) (by decide +kernel)⟩
theorem lw_p26 : lw_okq (⟨"DoorBench", "refusalOfAll", "(II)I"⟩, 13) := ⟨⟨by decide +kernel, by decide +kernel⟩, List.mem_of_getElem? (i := 21) (by decide +kernel), List.mem_of_getElem? (i := 748) (by decide +kernel), List.mem_of_getElem? (i := 749) (by decide +kernel)⟩
theorem lw_p27 : lw_okq (⟨"DoorBench$Way", "recall", "(LDoorBench$Bench;I[I)I"⟩, 5) := ⟨⟨by decide +kernel, by decide +kernel⟩, List.mem_of_getElem? (i := 650) (by decide +kernel), List.mem_of_getElem? (i := 874) (by decide +kernel), List.mem_of_getElem? (i := 875) (by decide +kernel)⟩
theorem lw_p28 : lw_okq (⟨"DoorBench$Way", "twists", "(LDoorBench$Bench;II[I)Z"⟩, 5) := ⟨⟨by decide +kernel, by decide +kernel⟩, List.mem_of_getElem? (i := 650) (by decide +kernel), List.mem_of_getElem? (i := 895) (by decide +kernel), List.mem_of_getElem? (i := 896) (by decide +kernel)⟩
theorem lw_p29 : lw_okq (⟨"DoorBench", "refusalOfRows", "(II)I"⟩, 13) := ⟨⟨by decide +kernel, by decide +kernel⟩, List.mem_of_getElem? (i := 21) (by decide +kernel), List.mem_of_getElem? (i := 913) (by decide +kernel), List.mem_of_getElem? (i := 914) (by decide +kernel)⟩
theorem lw_p30 : lw_okq (⟨"DoorBench$Bench", "numberAll", "(I)V"⟩, 12) := ⟨⟨by decide +kernel, by decide +kernel⟩, List.mem_of_getElem? (i := 304) (by decide +kernel), List.mem_of_getElem? (i := 937) (by decide +kernel), List.mem_of_getElem? (i := 938) (by decide +kernel)⟩
theorem lw_p31 : lw_okq (⟨"DoorBench$Bench", "numberIn", "(II)I"⟩, 12) := ⟨⟨by decide +kernel, by decide +kernel⟩, List.mem_of_getElem? (i := 304) (by decide +kernel), List.mem_of_getElem? (i := 941) (by decide +kernel), List.mem_of_getElem? (i := 942) (by decide +kernel)⟩
def lw_privs_2 : List (MethodName × Nat) := [(⟨"DoorBench", "benchOf", "(I)LDoorBench$Bench;"⟩, 13), (⟨"DoorBench", "agendaOf", "(I)LDoorBench$Agenda;"⟩, 13), (⟨"DoorBench$Agenda", "setsHaving", "(II)J"⟩, 14), (⟨"DoorBench$Agenda", "having", "(II)J"⟩, 14), (⟨"DoorBench", "answersFrom", "(III)I"⟩, 13), (⟨"DoorBench$Bench", "sumLeans", "()V"⟩, 12), (⟨"DoorBench$Bench", "leanOf", "(I)I"⟩, 12), (⟨"DoorBench", "bodyOf", "(III)LDoorBench$Way;"⟩, 13), (⟨"DoorBench", "bodyAt", "(I)LDoorBench$Way;"⟩, 13), (⟨"DoorBench$Bench", "isYesInTurn", "(IZ)Z"⟩, 12), (⟨"DoorBench", "refusalOfAll", "(II)I"⟩, 13), (⟨"DoorBench$Way", "recall", "(LDoorBench$Bench;I[I)I"⟩, 5), (⟨"DoorBench$Way", "twists", "(LDoorBench$Bench;II[I)Z"⟩, 5), (⟨"DoorBench", "refusalOfRows", "(II)I"⟩, 13), (⟨"DoorBench$Bench", "numberAll", "(I)V"⟩, 12), (⟨"DoorBench$Bench", "numberIn", "(II)I"⟩, 12)]
theorem lw_r2 : ∀ q ∈ lw_privs_2, lw_okq q := List.forall_mem_cons.mpr ⟨lw_p16, List.forall_mem_cons.mpr ⟨lw_p17, List.forall_mem_cons.mpr ⟨lw_p18, List.forall_mem_cons.mpr ⟨lw_p19, List.forall_mem_cons.mpr ⟨lw_p20, List.forall_mem_cons.mpr ⟨lw_p21, List.forall_mem_cons.mpr ⟨lw_p22, List.forall_mem_cons.mpr ⟨lw_p23, List.forall_mem_cons.mpr ⟨lw_p24, List.forall_mem_cons.mpr ⟨lw_p25, List.forall_mem_cons.mpr ⟨lw_p26, List.forall_mem_cons.mpr ⟨lw_p27, List.forall_mem_cons.mpr ⟨lw_p28, List.forall_mem_cons.mpr ⟨lw_p29, List.forall_mem_cons.mpr ⟨lw_p30, List.forall_mem_cons.mpr ⟨lw_p31, fun _ h => absurd h List.not_mem_nil⟩⟩⟩⟩⟩⟩⟩⟩⟩⟩⟩⟩⟩⟩⟩⟩
theorem lw_p32 : lw_okq (⟨"DoorBench$Bench", "firstUnalike", "([II)I"⟩, 12) := ⟨⟨by decide +kernel, by decide +kernel⟩, List.mem_of_getElem? (i := 304) (by decide +kernel), List.mem_of_getElem? (i := 950) (by decide +kernel), List.mem_of_getElem? (i := 951) (by decide +kernel)⟩
theorem lw_p33 : lw_okq (⟨"DoorBench$Bench", "rowInOrder", "(I)I"⟩, 12) := ⟨⟨by decide +kernel, by decide +kernel⟩, List.mem_of_getElem? (i := 304) (by decide +kernel), List.mem_of_getElem? (i := 954) (by decide +kernel), List.mem_of_getElem? (i := 955) (by decide +kernel)⟩
theorem lw_p34 : lw_okq (⟨"DoorBench$Bench", "firstNotOwn", "([II)I"⟩, 12) := ⟨⟨by decide +kernel, by decide +kernel⟩, List.mem_of_getElem? (i := 304) (by decide +kernel), List.mem_of_getElem? (i := 958) (by decide +kernel), List.mem_of_getElem? (i := 959) (by decide +kernel)⟩
theorem lw_p35 : lw_okq (⟨"DoorBench$Bench", "whoSaysYes", "(I)I"⟩, 12) := ⟨⟨by decide +kernel, by decide +kernel⟩, List.mem_of_getElem? (i := 304) (by decide +kernel), List.mem_of_getElem? (i := 962) (by decide +kernel), List.mem_of_getElem? (i := 963) (by decide +kernel)⟩
theorem lw_p36 : lw_okq (⟨"DoorBench$Bench", "firstOtherMind", "([II)I"⟩, 12) := ⟨⟨by decide +kernel, by decide +kernel⟩, List.mem_of_getElem? (i := 304) (by decide +kernel), List.mem_of_getElem? (i := 966) (by decide +kernel), List.mem_of_getElem? (i := 967) (by decide +kernel)⟩
theorem lw_p37 : lw_okq (⟨"DoorBench$Bench", "firstUnlawful", "([II)I"⟩, 12) := ⟨⟨by decide +kernel, by decide +kernel⟩, List.mem_of_getElem? (i := 304) (by decide +kernel), List.mem_of_getElem? (i := 971) (by decide +kernel), List.mem_of_getElem? (i := 972) (by decide +kernel)⟩
theorem lw_p38 : lw_okq (⟨"DoorBench$Bench", "firstSomebody", "([II)I"⟩, 12) := ⟨⟨by decide +kernel, by decide +kernel⟩, List.mem_of_getElem? (i := 304) (by decide +kernel), List.mem_of_getElem? (i := 976) (by decide +kernel), List.mem_of_getElem? (i := 977) (by decide +kernel)⟩
theorem lw_p39 : lw_okq (⟨"DoorBench$Agenda", "isSafeWithout", "(II)Z"⟩, 14) := ⟨⟨by decide +kernel, by decide +kernel⟩, List.mem_of_getElem? (i := 199) (by decide +kernel), List.mem_of_getElem? (i := 997) (by decide +kernel), List.mem_of_getElem? (i := 998) (by decide +kernel)⟩
theorem lw_p40 : lw_okq (⟨"DoorBench$Agenda", "listFew", "(I)I"⟩, 14) := ⟨⟨by decide +kernel, by decide +kernel⟩, List.mem_of_getElem? (i := 199) (by decide +kernel), List.mem_of_getElem? (i := 1001) (by decide +kernel), List.mem_of_getElem? (i := 1002) (by decide +kernel)⟩
theorem lw_p41 : lw_okq (⟨"DoorBench$Agenda", "foursStand", "(I)Z"⟩, 14) := ⟨⟨by decide +kernel, by decide +kernel⟩, List.mem_of_getElem? (i := 199) (by decide +kernel), List.mem_of_getElem? (i := 1009) (by decide +kernel), List.mem_of_getElem? (i := 1010) (by decide +kernel)⟩
theorem lw_p42 : lw_okq (⟨"DoorBench$Agenda", "someOfFew", "(III)Z"⟩, 14) := ⟨⟨by decide +kernel, by decide +kernel⟩, List.mem_of_getElem? (i := 199) (by decide +kernel), List.mem_of_getElem? (i := 1013) (by decide +kernel), List.mem_of_getElem? (i := 1014) (by decide +kernel)⟩
theorem lw_p43 : lw_okq (⟨"DoorBench$Agenda", "threesStand", "(I)Z"⟩, 14) := ⟨⟨by decide +kernel, by decide +kernel⟩, List.mem_of_getElem? (i := 199) (by decide +kernel), List.mem_of_getElem? (i := 1017) (by decide +kernel), List.mem_of_getElem? (i := 1018) (by decide +kernel)⟩
theorem lw_p44 : lw_okq (⟨"DoorBench$Bench", "orderDigits", "()I"⟩, 12) := ⟨⟨by decide +kernel, by decide +kernel⟩, List.mem_of_getElem? (i := 304) (by decide +kernel), List.mem_of_getElem? (i := 1031) (by decide +kernel), List.mem_of_getElem? (i := 1032) (by decide +kernel)⟩
theorem lw_p45 : lw_okq (⟨"DoorBench$Bench", "nextOrder", "()V"⟩, 12) := ⟨⟨by decide +kernel, by decide +kernel⟩, List.mem_of_getElem? (i := 304) (by decide +kernel), List.mem_of_getElem? (i := 1035) (by decide +kernel), List.mem_of_getElem? (i := 1036) (by decide +kernel)⟩
theorem lw_p46 : lw_okq (⟨"DoorBench$Bench", "swapOrder", "(II)V"⟩, 12) := ⟨⟨by decide +kernel, by decide +kernel⟩, List.mem_of_getElem? (i := 304) (by decide +kernel), List.mem_of_getElem? (i := 1039) (by decide +kernel), List.mem_of_getElem? (i := 1040) (by decide +kernel)⟩
theorem lw_p47 : lw_okq (⟨"DoorBench", "refusalOfPlace", "(II)I"⟩, 13) := ⟨⟨by decide +kernel, by decide +kernel⟩, List.mem_of_getElem? (i := 21) (by decide +kernel), List.mem_of_getElem? (i := 1180) (by decide +kernel), List.mem_of_getElem? (i := 1181) (by decide +kernel)⟩
def lw_privs_3 : List (MethodName × Nat) := [(⟨"DoorBench$Bench", "firstUnalike", "([II)I"⟩, 12), (⟨"DoorBench$Bench", "rowInOrder", "(I)I"⟩, 12), (⟨"DoorBench$Bench", "firstNotOwn", "([II)I"⟩, 12), (⟨"DoorBench$Bench", "whoSaysYes", "(I)I"⟩, 12), (⟨"DoorBench$Bench", "firstOtherMind", "([II)I"⟩, 12), (⟨"DoorBench$Bench", "firstUnlawful", "([II)I"⟩, 12), (⟨"DoorBench$Bench", "firstSomebody", "([II)I"⟩, 12), (⟨"DoorBench$Agenda", "isSafeWithout", "(II)Z"⟩, 14), (⟨"DoorBench$Agenda", "listFew", "(I)I"⟩, 14), (⟨"DoorBench$Agenda", "foursStand", "(I)Z"⟩, 14), (⟨"DoorBench$Agenda", "someOfFew", "(III)Z"⟩, 14), (⟨"DoorBench$Agenda", "threesStand", "(I)Z"⟩, 14), (⟨"DoorBench$Bench", "orderDigits", "()I"⟩, 12), (⟨"DoorBench$Bench", "nextOrder", "()V"⟩, 12), (⟨"DoorBench$Bench", "swapOrder", "(II)V"⟩, 12), (⟨"DoorBench", "refusalOfPlace", "(II)I"⟩, 13)]
theorem lw_r3 : ∀ q ∈ lw_privs_3, lw_okq q := List.forall_mem_cons.mpr ⟨lw_p32, List.forall_mem_cons.mpr ⟨lw_p33, List.forall_mem_cons.mpr ⟨lw_p34, List.forall_mem_cons.mpr ⟨lw_p35, List.forall_mem_cons.mpr ⟨lw_p36, List.forall_mem_cons.mpr ⟨lw_p37, List.forall_mem_cons.mpr ⟨lw_p38, List.forall_mem_cons.mpr ⟨lw_p39, List.forall_mem_cons.mpr ⟨lw_p40, List.forall_mem_cons.mpr ⟨lw_p41, List.forall_mem_cons.mpr ⟨lw_p42, List.forall_mem_cons.mpr ⟨lw_p43, List.forall_mem_cons.mpr ⟨lw_p44, List.forall_mem_cons.mpr ⟨lw_p45, List.forall_mem_cons.mpr ⟨lw_p46, List.forall_mem_cons.mpr ⟨lw_p47, fun _ h => absurd h List.not_mem_nil⟩⟩⟩⟩⟩⟩⟩⟩⟩⟩⟩⟩⟩⟩⟩⟩
theorem lw_p48 : lw_okq (⟨"DoorBench", "hasPlaces", "(III)Z"⟩, 13) := ⟨⟨by decide +kernel, by decide +kernel⟩, List.mem_of_getElem? (i := 21) (by decide +kernel), List.mem_of_getElem? (i := 1196) (by decide +kernel), List.mem_of_getElem? (i := 1197) (by decide +kernel)⟩
theorem lw_p49 : lw_okq (⟨"DoorBench", "allJudges", "()I"⟩, 13) := ⟨⟨by decide +kernel, by decide +kernel⟩, List.mem_of_getElem? (i := 21) (by decide +kernel), List.mem_of_getElem? (i := 1224) (by decide +kernel), List.mem_of_getElem? (i := 1225) (by decide +kernel)⟩
theorem lw_p50 : lw_okq (⟨"DoorBenchModel", "firstPart", "()V"⟩, 53) := ⟨⟨by decide +kernel, by decide +kernel⟩, List.mem_of_getElem? (i := 1228) (by decide +kernel), List.mem_of_getElem? (i := 1406) (by decide +kernel), List.mem_of_getElem? (i := 1407) (by decide +kernel)⟩
theorem lw_p51 : lw_okq (⟨"DoorBenchModel", "takes", "(I)Z"⟩, 53) := ⟨⟨by decide +kernel, by decide +kernel⟩, List.mem_of_getElem? (i := 1228) (by decide +kernel), List.mem_of_getElem? (i := 1410) (by decide +kernel), List.mem_of_getElem? (i := 1411) (by decide +kernel)⟩
theorem lw_p52 : lw_okq (⟨"DoorBenchModel", "byteAt", "()I"⟩, 53) := ⟨⟨by decide +kernel, by decide +kernel⟩, List.mem_of_getElem? (i := 1228) (by decide +kernel), List.mem_of_getElem? (i := 1414) (by decide +kernel), List.mem_of_getElem? (i := 1415) (by decide +kernel)⟩
theorem lw_p53 : lw_okq (⟨"DoorBenchModel", "wrong", "()Z"⟩, 53) := ⟨⟨by decide +kernel, by decide +kernel⟩, List.mem_of_getElem? (i := 1228) (by decide +kernel), List.mem_of_getElem? (i := 1418) (by decide +kernel), List.mem_of_getElem? (i := 1419) (by decide +kernel)⟩
theorem lw_p54 : lw_okq (⟨"DoorBenchModel", "questionOf", "(I)I"⟩, 53) := ⟨⟨by decide +kernel, by decide +kernel⟩, List.mem_of_getElem? (i := 1228) (by decide +kernel), List.mem_of_getElem? (i := 1424) (by decide +kernel), List.mem_of_getElem? (i := 1425) (by decide +kernel)⟩
theorem lw_p55 : lw_okq (⟨"DoorBenchModel", "otherPart", "()V"⟩, 53) := ⟨⟨by decide +kernel, by decide +kernel⟩, List.mem_of_getElem? (i := 1228) (by decide +kernel), List.mem_of_getElem? (i := 1428) (by decide +kernel), List.mem_of_getElem? (i := 1429) (by decide +kernel)⟩
theorem lw_p56 : lw_okq (⟨"DoorBenchModel", "letters", "()I"⟩, 53) := ⟨⟨by decide +kernel, by decide +kernel⟩, List.mem_of_getElem? (i := 1228) (by decide +kernel), List.mem_of_getElem? (i := 1432) (by decide +kernel), List.mem_of_getElem? (i := 1433) (by decide +kernel)⟩
theorem lw_p57 : lw_okq (⟨"DoorBenchModel", "alike", "()Z"⟩, 53) := ⟨⟨by decide +kernel, by decide +kernel⟩, List.mem_of_getElem? (i := 1228) (by decide +kernel), List.mem_of_getElem? (i := 1436) (by decide +kernel), List.mem_of_getElem? (i := 1437) (by decide +kernel)⟩
theorem lw_p58 : lw_okq (⟨"DoorBenchModel", "implied", "()Z"⟩, 53) := ⟨⟨by decide +kernel, by decide +kernel⟩, List.mem_of_getElem? (i := 1228) (by decide +kernel), List.mem_of_getElem? (i := 1440) (by decide +kernel), List.mem_of_getElem? (i := 1441) (by decide +kernel)⟩
theorem lw_p59 : lw_okq (⟨"DoorBenchModel", "either", "()Z"⟩, 53) := ⟨⟨by decide +kernel, by decide +kernel⟩, List.mem_of_getElem? (i := 1228) (by decide +kernel), List.mem_of_getElem? (i := 1444) (by decide +kernel), List.mem_of_getElem? (i := 1445) (by decide +kernel)⟩
theorem lw_p60 : lw_okq (⟨"DoorBenchModel", "both", "()Z"⟩, 53) := ⟨⟨by decide +kernel, by decide +kernel⟩, List.mem_of_getElem? (i := 1228) (by decide +kernel), List.mem_of_getElem? (i := 1448) (by decide +kernel), List.mem_of_getElem? (i := 1449) (by decide +kernel)⟩
theorem lw_p61 : lw_okq (⟨"DoorBenchModel", "one", "()Z"⟩, 53) := ⟨⟨by decide +kernel, by decide +kernel⟩, List.mem_of_getElem? (i := 1228) (by decide +kernel), List.mem_of_getElem? (i := 1452) (by decide +kernel), List.mem_of_getElem? (i := 1453) (by decide +kernel)⟩
theorem lw_p62 : lw_okq (⟨"DoorBenchModel", "opens", "()Z"⟩, 53) := ⟨⟨by decide +kernel, by decide +kernel⟩, List.mem_of_getElem? (i := 1228) (by decide +kernel), List.mem_of_getElem? (i := 1456) (by decide +kernel), List.mem_of_getElem? (i := 1457) (by decide +kernel)⟩
theorem lw_p63 : lw_okq (⟨"DoorBenchModel", "atLeast", "(I)Z"⟩, 53) := ⟨⟨by decide +kernel, by decide +kernel⟩, List.mem_of_getElem? (i := 1228) (by decide +kernel), List.mem_of_getElem? (i := 1462) (by decide +kernel), List.mem_of_getElem? (i := 1463) (by decide +kernel)⟩
def lw_privs_4 : List (MethodName × Nat) := [(⟨"DoorBench", "hasPlaces", "(III)Z"⟩, 13), (⟨"DoorBench", "allJudges", "()I"⟩, 13), (⟨"DoorBenchModel", "firstPart", "()V"⟩, 53), (⟨"DoorBenchModel", "takes", "(I)Z"⟩, 53), (⟨"DoorBenchModel", "byteAt", "()I"⟩, 53), (⟨"DoorBenchModel", "wrong", "()Z"⟩, 53), (⟨"DoorBenchModel", "questionOf", "(I)I"⟩, 53), (⟨"DoorBenchModel", "otherPart", "()V"⟩, 53), (⟨"DoorBenchModel", "letters", "()I"⟩, 53), (⟨"DoorBenchModel", "alike", "()Z"⟩, 53), (⟨"DoorBenchModel", "implied", "()Z"⟩, 53), (⟨"DoorBenchModel", "either", "()Z"⟩, 53), (⟨"DoorBenchModel", "both", "()Z"⟩, 53), (⟨"DoorBenchModel", "one", "()Z"⟩, 53), (⟨"DoorBenchModel", "opens", "()Z"⟩, 53), (⟨"DoorBenchModel", "atLeast", "(I)Z"⟩, 53)]
theorem lw_r4 : ∀ q ∈ lw_privs_4, lw_okq q := List.forall_mem_cons.mpr ⟨lw_p48, List.forall_mem_cons.mpr ⟨lw_p49, List.forall_mem_cons.mpr ⟨lw_p50, List.forall_mem_cons.mpr ⟨lw_p51, List.forall_mem_cons.mpr ⟨lw_p52, List.forall_mem_cons.mpr ⟨lw_p53, List.forall_mem_cons.mpr ⟨lw_p54, List.forall_mem_cons.mpr ⟨lw_p55, List.forall_mem_cons.mpr ⟨lw_p56, List.forall_mem_cons.mpr ⟨lw_p57, List.forall_mem_cons.mpr ⟨lw_p58, List.forall_mem_cons.mpr ⟨lw_p59, List.forall_mem_cons.mpr ⟨lw_p60, List.forall_mem_cons.mpr ⟨lw_p61, List.forall_mem_cons.mpr ⟨lw_p62, List.forall_mem_cons.mpr ⟨lw_p63, fun _ h => absurd h List.not_mem_nil⟩⟩⟩⟩⟩⟩⟩⟩⟩⟩⟩⟩⟩⟩⟩⟩
theorem lw_p64 : lw_okq (⟨"DoorBenchModel", "keeps", "(III)Z"⟩, 53) := ⟨⟨by decide +kernel, by decide +kernel⟩, List.mem_of_getElem? (i := 1228) (by decide +kernel), List.mem_of_getElem? (i := 1466) (by decide +kernel), List.mem_of_getElem? (i := 1467) (by decide +kernel)⟩
theorem lw_p65 : lw_okq (⟨"DoorBenchModel", "smallestPart", "(I)I"⟩, 53) := ⟨⟨by decide +kernel, by decide +kernel⟩, List.mem_of_getElem? (i := 1228) (by decide +kernel), List.mem_of_getElem? (i := 1470) (by decide +kernel), List.mem_of_getElem? (i := 1471) (by decide +kernel)⟩
theorem lw_p66 : lw_okq (⟨"DoorBenchModel", "isAgenda", "(I)Z"⟩, 53) := ⟨⟨by decide +kernel, by decide +kernel⟩, List.mem_of_getElem? (i := 1228) (by decide +kernel), List.mem_of_getElem? (i := 1481) (by decide +kernel), List.mem_of_getElem? (i := 1482) (by decide +kernel)⟩
theorem lw_p67 : lw_okq (⟨"DoorBenchModel", "isSet", "(II)Z"⟩, 53) := ⟨⟨by decide +kernel, by decide +kernel⟩, List.mem_of_getElem? (i := 1228) (by decide +kernel), List.mem_of_getElem? (i := 1493) (by decide +kernel), List.mem_of_getElem? (i := 1494) (by decide +kernel)⟩
theorem lw_p68 : lw_okq (⟨"DoorBenchModel", "areAnswers", "(III)Z"⟩, 53) := ⟨⟨by decide +kernel, by decide +kernel⟩, List.mem_of_getElem? (i := 1228) (by decide +kernel), List.mem_of_getElem? (i := 1501) (by decide +kernel), List.mem_of_getElem? (i := 1502) (by decide +kernel)⟩
theorem lw_p69 : lw_okq (⟨"DoorBenchModel", "canStand", "(III)Z"⟩, 53) := ⟨⟨by decide +kernel, by decide +kernel⟩, List.mem_of_getElem? (i := 1228) (by decide +kernel), List.mem_of_getElem? (i := 1505) (by decide +kernel), List.mem_of_getElem? (i := 1506) (by decide +kernel)⟩
theorem lw_p70 : lw_okq (⟨"DoorBenchModel", "isQuestion", "(II)Z"⟩, 53) := ⟨⟨by decide +kernel, by decide +kernel⟩, List.mem_of_getElem? (i := 1228) (by decide +kernel), List.mem_of_getElem? (i := 1516) (by decide +kernel), List.mem_of_getElem? (i := 1517) (by decide +kernel)⟩
theorem lw_p71 : lw_okq (⟨"DoorBenchModel", "forcedBy", "(IIII)I"⟩, 53) := ⟨⟨by decide +kernel, by decide +kernel⟩, List.mem_of_getElem? (i := 1228) (by decide +kernel), List.mem_of_getElem? (i := 1520) (by decide +kernel), List.mem_of_getElem? (i := 1521) (by decide +kernel)⟩
theorem lw_p72 : lw_okq (⟨"DoorBenchModel", "isJudge", "(II)Z"⟩, 53) := ⟨⟨by decide +kernel, by decide +kernel⟩, List.mem_of_getElem? (i := 1228) (by decide +kernel), List.mem_of_getElem? (i := 1537) (by decide +kernel), List.mem_of_getElem? (i := 1538) (by decide +kernel)⟩
theorem lw_p73 : lw_okq (⟨"DoorBenchModel", "sitDown", "(I)V"⟩, 53) := ⟨⟨by decide +kernel, by decide +kernel⟩, List.mem_of_getElem? (i := 1228) (by decide +kernel), List.mem_of_getElem? (i := 1562) (by decide +kernel), List.mem_of_getElem? (i := 1563) (by decide +kernel)⟩
theorem lw_p74 : lw_okq (⟨"DoorBenchModel", "votesFor", "(II)I"⟩, 53) := ⟨⟨by decide +kernel, by decide +kernel⟩, List.mem_of_getElem? (i := 1228) (by decide +kernel), List.mem_of_getElem? (i := 1566) (by decide +kernel), List.mem_of_getElem? (i := 1567) (by decide +kernel)⟩
theorem lw_p75 : lw_okq (⟨"DoorBenchModel", "farFrom", "(I)I"⟩, 53) := ⟨⟨by decide +kernel, by decide +kernel⟩, List.mem_of_getElem? (i := 1228) (by decide +kernel), List.mem_of_getElem? (i := 1574) (by decide +kernel), List.mem_of_getElem? (i := 1575) (by decide +kernel)⟩
theorem lw_p76 : lw_okq (⟨"DoorBenchModel", "nearestOf", "(II)I"⟩, 53) := ⟨⟨by decide +kernel, by decide +kernel⟩, List.mem_of_getElem? (i := 1228) (by decide +kernel), List.mem_of_getElem? (i := 1582) (by decide +kernel), List.mem_of_getElem? (i := 1583) (by decide +kernel)⟩
theorem lw_p77 : lw_okq (⟨"DoorBenchModel", "isWay", "(I)Z"⟩, 53) := ⟨⟨by decide +kernel, by decide +kernel⟩, List.mem_of_getElem? (i := 1228) (by decide +kernel), List.mem_of_getElem? (i := 1596) (by decide +kernel), List.mem_of_getElem? (i := 1597) (by decide +kernel)⟩
theorem lw_p78 : lw_okq (⟨"DoorBenchModel", "find", "(I)V"⟩, 53) := ⟨⟨by decide +kernel, by decide +kernel⟩, List.mem_of_getElem? (i := 1228) (by decide +kernel), List.mem_of_getElem? (i := 1604) (by decide +kernel), List.mem_of_getElem? (i := 1605) (by decide +kernel)⟩
theorem lw_p79 : lw_okq (⟨"DoorBenchModel", "all", "()I"⟩, 53) := ⟨⟨by decide +kernel, by decide +kernel⟩, List.mem_of_getElem? (i := 1228) (by decide +kernel), List.mem_of_getElem? (i := 1608) (by decide +kernel), List.mem_of_getElem? (i := 1609) (by decide +kernel)⟩
def lw_privs_5 : List (MethodName × Nat) := [(⟨"DoorBenchModel", "keeps", "(III)Z"⟩, 53), (⟨"DoorBenchModel", "smallestPart", "(I)I"⟩, 53), (⟨"DoorBenchModel", "isAgenda", "(I)Z"⟩, 53), (⟨"DoorBenchModel", "isSet", "(II)Z"⟩, 53), (⟨"DoorBenchModel", "areAnswers", "(III)Z"⟩, 53), (⟨"DoorBenchModel", "canStand", "(III)Z"⟩, 53), (⟨"DoorBenchModel", "isQuestion", "(II)Z"⟩, 53), (⟨"DoorBenchModel", "forcedBy", "(IIII)I"⟩, 53), (⟨"DoorBenchModel", "isJudge", "(II)Z"⟩, 53), (⟨"DoorBenchModel", "sitDown", "(I)V"⟩, 53), (⟨"DoorBenchModel", "votesFor", "(II)I"⟩, 53), (⟨"DoorBenchModel", "farFrom", "(I)I"⟩, 53), (⟨"DoorBenchModel", "nearestOf", "(II)I"⟩, 53), (⟨"DoorBenchModel", "isWay", "(I)Z"⟩, 53), (⟨"DoorBenchModel", "find", "(I)V"⟩, 53), (⟨"DoorBenchModel", "all", "()I"⟩, 53)]
theorem lw_r5 : ∀ q ∈ lw_privs_5, lw_okq q := List.forall_mem_cons.mpr ⟨lw_p64, List.forall_mem_cons.mpr ⟨lw_p65, List.forall_mem_cons.mpr ⟨lw_p66, List.forall_mem_cons.mpr ⟨lw_p67, List.forall_mem_cons.mpr ⟨lw_p68, List.forall_mem_cons.mpr ⟨lw_p69, List.forall_mem_cons.mpr ⟨lw_p70, List.forall_mem_cons.mpr ⟨lw_p71, List.forall_mem_cons.mpr ⟨lw_p72, List.forall_mem_cons.mpr ⟨lw_p73, List.forall_mem_cons.mpr ⟨lw_p74, List.forall_mem_cons.mpr ⟨lw_p75, List.forall_mem_cons.mpr ⟨lw_p76, List.forall_mem_cons.mpr ⟨lw_p77, List.forall_mem_cons.mpr ⟨lw_p78, List.forall_mem_cons.mpr ⟨lw_p79, fun _ h => absurd h List.not_mem_nil⟩⟩⟩⟩⟩⟩⟩⟩⟩⟩⟩⟩⟩⟩⟩⟩
theorem lw_p80 : lw_okq (⟨"DoorBenchModel", "byHeads", "(I)V"⟩, 53) := ⟨⟨by decide +kernel, by decide +kernel⟩, List.mem_of_getElem? (i := 1228) (by decide +kernel), List.mem_of_getElem? (i := 1612) (by decide +kernel), List.mem_of_getElem? (i := 1613) (by decide +kernel)⟩
theorem lw_p81 : lw_okq (⟨"DoorBenchModel", "heads", "(I)I"⟩, 53) := ⟨⟨by decide +kernel, by decide +kernel⟩, List.mem_of_getElem? (i := 1228) (by decide +kernel), List.mem_of_getElem? (i := 1616) (by decide +kernel), List.mem_of_getElem? (i := 1617) (by decide +kernel)⟩
theorem lw_p82 : lw_okq (⟨"DoorBenchModel", "answer", "(II)V"⟩, 53) := ⟨⟨by decide +kernel, by decide +kernel⟩, List.mem_of_getElem? (i := 1228) (by decide +kernel), List.mem_of_getElem? (i := 1620) (by decide +kernel), List.mem_of_getElem? (i := 1621) (by decide +kernel)⟩
theorem lw_p83 : lw_okq (⟨"DoorBenchModel", "byPremises", "()V"⟩, 53) := ⟨⟨by decide +kernel, by decide +kernel⟩, List.mem_of_getElem? (i := 1228) (by decide +kernel), List.mem_of_getElem? (i := 1624) (by decide +kernel), List.mem_of_getElem? (i := 1625) (by decide +kernel)⟩
theorem lw_p84 : lw_okq (⟨"DoorBenchModel", "byEnds", "()V"⟩, 53) := ⟨⟨by decide +kernel, by decide +kernel⟩, List.mem_of_getElem? (i := 1228) (by decide +kernel), List.mem_of_getElem? (i := 1628) (by decide +kernel), List.mem_of_getElem? (i := 1629) (by decide +kernel)⟩
theorem lw_p85 : lw_okq (⟨"DoorBenchModel", "byTurns", "(I)V"⟩, 53) := ⟨⟨by decide +kernel, by decide +kernel⟩, List.mem_of_getElem? (i := 1228) (by decide +kernel), List.mem_of_getElem? (i := 1632) (by decide +kernel), List.mem_of_getElem? (i := 1633) (by decide +kernel)⟩
theorem lw_p86 : lw_okq (⟨"DoorBenchModel", "byLeader", "(I)V"⟩, 53) := ⟨⟨by decide +kernel, by decide +kernel⟩, List.mem_of_getElem? (i := 1228) (by decide +kernel), List.mem_of_getElem? (i := 1636) (by decide +kernel), List.mem_of_getElem? (i := 1637) (by decide +kernel)⟩
theorem lw_p87 : lw_okq (⟨"DoorBenchModel", "brokenBy", "()I"⟩, 53) := ⟨⟨by decide +kernel, by decide +kernel⟩, List.mem_of_getElem? (i := 1228) (by decide +kernel), List.mem_of_getElem? (i := 1640) (by decide +kernel), List.mem_of_getElem? (i := 1641) (by decide +kernel)⟩
theorem lw_p88 : lw_okq (⟨"DoorBenchModel", "isUnlawful", "()Z"⟩, 53) := ⟨⟨by decide +kernel, by decide +kernel⟩, List.mem_of_getElem? (i := 1228) (by decide +kernel), List.mem_of_getElem? (i := 1644) (by decide +kernel), List.mem_of_getElem? (i := 1645) (by decide +kernel)⟩
theorem lw_p89 : lw_okq (⟨"DoorBenchModel", "noBenches", "(II)I"⟩, 53) := ⟨⟨by decide +kernel, by decide +kernel⟩, List.mem_of_getElem? (i := 1228) (by decide +kernel), List.mem_of_getElem? (i := 1652) (by decide +kernel), List.mem_of_getElem? (i := 1653) (by decide +kernel)⟩
theorem lw_p90 : lw_okq (⟨"DoorBenchModel", "begin", "(II)V"⟩, 53) := ⟨⟨by decide +kernel, by decide +kernel⟩, List.mem_of_getElem? (i := 1228) (by decide +kernel), List.mem_of_getElem? (i := 1656) (by decide +kernel), List.mem_of_getElem? (i := 1657) (by decide +kernel)⟩
theorem lw_p91 : lw_okq (⟨"DoorBenchModel", "seatAll", "()V"⟩, 53) := ⟨⟨by decide +kernel, by decide +kernel⟩, List.mem_of_getElem? (i := 1228) (by decide +kernel), List.mem_of_getElem? (i := 1660) (by decide +kernel), List.mem_of_getElem? (i := 1661) (by decide +kernel)⟩
theorem lw_p92 : lw_okq (⟨"DoorBenchModel", "seat", "(II)V"⟩, 53) := ⟨⟨by decide +kernel, by decide +kernel⟩, List.mem_of_getElem? (i := 1228) (by decide +kernel), List.mem_of_getElem? (i := 1664) (by decide +kernel), List.mem_of_getElem? (i := 1665) (by decide +kernel)⟩
theorem lw_p93 : lw_okq (⟨"DoorBenchModel", "goOn", "(Z)Z"⟩, 53) := ⟨⟨by decide +kernel, by decide +kernel⟩, List.mem_of_getElem? (i := 1228) (by decide +kernel), List.mem_of_getElem? (i := 1668) (by decide +kernel), List.mem_of_getElem? (i := 1669) (by decide +kernel)⟩
theorem lw_p94 : lw_okq (⟨"DoorBenchModel", "code", "()I"⟩, 53) := ⟨⟨by decide +kernel, by decide +kernel⟩, List.mem_of_getElem? (i := 1228) (by decide +kernel), List.mem_of_getElem? (i := 1676) (by decide +kernel), List.mem_of_getElem? (i := 1677) (by decide +kernel)⟩
theorem lw_p95 : lw_okq (⟨"DoorBenchModel", "twistOf", "(II)I"⟩, 53) := ⟨⟨by decide +kernel, by decide +kernel⟩, List.mem_of_getElem? (i := 1228) (by decide +kernel), List.mem_of_getElem? (i := 1692) (by decide +kernel), List.mem_of_getElem? (i := 1693) (by decide +kernel)⟩
def lw_privs_6 : List (MethodName × Nat) := [(⟨"DoorBenchModel", "byHeads", "(I)V"⟩, 53), (⟨"DoorBenchModel", "heads", "(I)I"⟩, 53), (⟨"DoorBenchModel", "answer", "(II)V"⟩, 53), (⟨"DoorBenchModel", "byPremises", "()V"⟩, 53), (⟨"DoorBenchModel", "byEnds", "()V"⟩, 53), (⟨"DoorBenchModel", "byTurns", "(I)V"⟩, 53), (⟨"DoorBenchModel", "byLeader", "(I)V"⟩, 53), (⟨"DoorBenchModel", "brokenBy", "()I"⟩, 53), (⟨"DoorBenchModel", "isUnlawful", "()Z"⟩, 53), (⟨"DoorBenchModel", "noBenches", "(II)I"⟩, 53), (⟨"DoorBenchModel", "begin", "(II)V"⟩, 53), (⟨"DoorBenchModel", "seatAll", "()V"⟩, 53), (⟨"DoorBenchModel", "seat", "(II)V"⟩, 53), (⟨"DoorBenchModel", "goOn", "(Z)Z"⟩, 53), (⟨"DoorBenchModel", "code", "()I"⟩, 53), (⟨"DoorBenchModel", "twistOf", "(II)I"⟩, 53)]
theorem lw_r6 : ∀ q ∈ lw_privs_6, lw_okq q := List.forall_mem_cons.mpr ⟨lw_p80, List.forall_mem_cons.mpr ⟨lw_p81, List.forall_mem_cons.mpr ⟨lw_p82, List.forall_mem_cons.mpr ⟨lw_p83, List.forall_mem_cons.mpr ⟨lw_p84, List.forall_mem_cons.mpr ⟨lw_p85, List.forall_mem_cons.mpr ⟨lw_p86, List.forall_mem_cons.mpr ⟨lw_p87, List.forall_mem_cons.mpr ⟨lw_p88, List.forall_mem_cons.mpr ⟨lw_p89, List.forall_mem_cons.mpr ⟨lw_p90, List.forall_mem_cons.mpr ⟨lw_p91, List.forall_mem_cons.mpr ⟨lw_p92, List.forall_mem_cons.mpr ⟨lw_p93, List.forall_mem_cons.mpr ⟨lw_p94, List.forall_mem_cons.mpr ⟨lw_p95, fun _ h => absurd h List.not_mem_nil⟩⟩⟩⟩⟩⟩⟩⟩⟩⟩⟩⟩⟩⟩⟩⟩
theorem lw_p96 : lw_okq (⟨"DoorBenchModel", "apart", "(I)I"⟩, 53) := ⟨⟨by decide +kernel, by decide +kernel⟩, List.mem_of_getElem? (i := 1228) (by decide +kernel), List.mem_of_getElem? (i := 1696) (by decide +kernel), List.mem_of_getElem? (i := 1697) (by decide +kernel)⟩
theorem lw_p97 : lw_okq (⟨"DoorBenchModel", "breachOf", "(IIII)I"⟩, 53) := ⟨⟨by decide +kernel, by decide +kernel⟩, List.mem_of_getElem? (i := 1228) (by decide +kernel), List.mem_of_getElem? (i := 1709) (by decide +kernel), List.mem_of_getElem? (i := 1710) (by decide +kernel)⟩
theorem lw_p98 : lw_okq (⟨"DoorBenchModel", "findRows", "(III)V"⟩, 53) := ⟨⟨by decide +kernel, by decide +kernel⟩, List.mem_of_getElem? (i := 1228) (by decide +kernel), List.mem_of_getElem? (i := 1713) (by decide +kernel), List.mem_of_getElem? (i := 1714) (by decide +kernel)⟩
theorem lw_p99 : lw_okq (⟨"DoorBenchModel", "setOf", "(II)I"⟩, 53) := ⟨⟨by decide +kernel, by decide +kernel⟩, List.mem_of_getElem? (i := 1228) (by decide +kernel), List.mem_of_getElem? (i := 1717) (by decide +kernel), List.mem_of_getElem? (i := 1718) (by decide +kernel)⟩
theorem lw_p100 : lw_okq (⟨"DoorBenchModel", "sortedRow", "(II)I"⟩, 53) := ⟨⟨by decide +kernel, by decide +kernel⟩, List.mem_of_getElem? (i := 1228) (by decide +kernel), List.mem_of_getElem? (i := 1721) (by decide +kernel), List.mem_of_getElem? (i := 1722) (by decide +kernel)⟩
theorem lw_p101 : lw_okq (⟨"DoorBenchModel", "isOwn", "(II)Z"⟩, 53) := ⟨⟨by decide +kernel, by decide +kernel⟩, List.mem_of_getElem? (i := 1228) (by decide +kernel), List.mem_of_getElem? (i := 1725) (by decide +kernel), List.mem_of_getElem? (i := 1726) (by decide +kernel)⟩
theorem lw_p102 : lw_okq (⟨"DoorBenchModel", "isMinded", "(II)Z"⟩, 53) := ⟨⟨by decide +kernel, by decide +kernel⟩, List.mem_of_getElem? (i := 1228) (by decide +kernel), List.mem_of_getElem? (i := 1729) (by decide +kernel), List.mem_of_getElem? (i := 1730) (by decide +kernel)⟩
theorem lw_p103 : lw_okq (⟨"DoorBenchModel", "mends", "(III)Z"⟩, 53) := ⟨⟨by decide +kernel, by decide +kernel⟩, List.mem_of_getElem? (i := 1228) (by decide +kernel), List.mem_of_getElem? (i := 1742) (by decide +kernel), List.mem_of_getElem? (i := 1743) (by decide +kernel)⟩
theorem lw_p104 : lw_okq (⟨"DoorBenchModel", "tryOrders", "(IIII)V"⟩, 53) := ⟨⟨by decide +kernel, by decide +kernel⟩, List.mem_of_getElem? (i := 1228) (by decide +kernel), List.mem_of_getElem? (i := 1750) (by decide +kernel), List.mem_of_getElem? (i := 1751) (by decide +kernel)⟩
theorem lw_p105 : lw_okq (⟨"DoorBenchModel", "counts", "(II)I"⟩, 53) := ⟨⟨by decide +kernel, by decide +kernel⟩, List.mem_of_getElem? (i := 1228) (by decide +kernel), List.mem_of_getElem? (i := 1758) (by decide +kernel), List.mem_of_getElem? (i := 1759) (by decide +kernel)⟩
theorem lw_p106 : lw_okq (⟨"DoorBenchModel", "ranBody", "(I)V"⟩, 53) := ⟨⟨by decide +kernel, by decide +kernel⟩, List.mem_of_getElem? (i := 1228) (by decide +kernel), List.mem_of_getElem? (i := 1762) (by decide +kernel), List.mem_of_getElem? (i := 1763) (by decide +kernel)⟩
theorem lw_p107 : lw_okq (⟨"DoorBenchModel", "weighs", "(II)I"⟩, 53) := ⟨⟨by decide +kernel, by decide +kernel⟩, List.mem_of_getElem? (i := 1228) (by decide +kernel), List.mem_of_getElem? (i := 1769) (by decide +kernel), List.mem_of_getElem? (i := 1770) (by decide +kernel)⟩
theorem lw_p108 : lw_okq (⟨"DoorBenchModel", "binds", "(II)I"⟩, 53) := ⟨⟨by decide +kernel, by decide +kernel⟩, List.mem_of_getElem? (i := 1228) (by decide +kernel), List.mem_of_getElem? (i := 1773) (by decide +kernel), List.mem_of_getElem? (i := 1774) (by decide +kernel)⟩
theorem lw_p109 : lw_okq (⟨"DoorBenchModel", "tells", "(II)I"⟩, 53) := ⟨⟨by decide +kernel, by decide +kernel⟩, List.mem_of_getElem? (i := 1228) (by decide +kernel), List.mem_of_getElem? (i := 1777) (by decide +kernel), List.mem_of_getElem? (i := 1778) (by decide +kernel)⟩
theorem lw_p110 : lw_okq (⟨"DoorBenchModel", "refusal", "(II)I"⟩, 53) := ⟨⟨by decide +kernel, by decide +kernel⟩, List.mem_of_getElem? (i := 1228) (by decide +kernel), List.mem_of_getElem? (i := 1797) (by decide +kernel), List.mem_of_getElem? (i := 1798) (by decide +kernel)⟩
def lw_privs_7 : List (MethodName × Nat) := [(⟨"DoorBenchModel", "apart", "(I)I"⟩, 53), (⟨"DoorBenchModel", "breachOf", "(IIII)I"⟩, 53), (⟨"DoorBenchModel", "findRows", "(III)V"⟩, 53), (⟨"DoorBenchModel", "setOf", "(II)I"⟩, 53), (⟨"DoorBenchModel", "sortedRow", "(II)I"⟩, 53), (⟨"DoorBenchModel", "isOwn", "(II)Z"⟩, 53), (⟨"DoorBenchModel", "isMinded", "(II)Z"⟩, 53), (⟨"DoorBenchModel", "mends", "(III)Z"⟩, 53), (⟨"DoorBenchModel", "tryOrders", "(IIII)V"⟩, 53), (⟨"DoorBenchModel", "counts", "(II)I"⟩, 53), (⟨"DoorBenchModel", "ranBody", "(I)V"⟩, 53), (⟨"DoorBenchModel", "weighs", "(II)I"⟩, 53), (⟨"DoorBenchModel", "binds", "(II)I"⟩, 53), (⟨"DoorBenchModel", "tells", "(II)I"⟩, 53), (⟨"DoorBenchModel", "refusal", "(II)I"⟩, 53)]
theorem lw_r7 : ∀ q ∈ lw_privs_7, lw_okq q := List.forall_mem_cons.mpr ⟨lw_p96, List.forall_mem_cons.mpr ⟨lw_p97, List.forall_mem_cons.mpr ⟨lw_p98, List.forall_mem_cons.mpr ⟨lw_p99, List.forall_mem_cons.mpr ⟨lw_p100, List.forall_mem_cons.mpr ⟨lw_p101, List.forall_mem_cons.mpr ⟨lw_p102, List.forall_mem_cons.mpr ⟨lw_p103, List.forall_mem_cons.mpr ⟨lw_p104, List.forall_mem_cons.mpr ⟨lw_p105, List.forall_mem_cons.mpr ⟨lw_p106, List.forall_mem_cons.mpr ⟨lw_p107, List.forall_mem_cons.mpr ⟨lw_p108, List.forall_mem_cons.mpr ⟨lw_p109, List.forall_mem_cons.mpr ⟨lw_p110, fun _ h => absurd h List.not_mem_nil⟩⟩⟩⟩⟩⟩⟩⟩⟩⟩⟩⟩⟩⟩⟩
def lw_privs : List (MethodName × Nat) := lw_privs_1 ++ (lw_privs_2 ++ (lw_privs_3 ++ (lw_privs_4 ++ (lw_privs_5 ++ (lw_privs_6 ++ (lw_privs_7))))))
def lw_tbl : List Cond := k2_sels lw_privs ++ tables_1
theorem lw_privs_ok : ∀ q ∈ lw_privs, lw_okq q := by
  show ∀ q ∈ lw_privs_1 ++ (lw_privs_2 ++ (lw_privs_3 ++ (lw_privs_4 ++ (lw_privs_5 ++ (lw_privs_6 ++ (lw_privs_7)))))), lw_okq q
  exact List.forall_mem_append.mpr ⟨lw_r1, List.forall_mem_append.mpr ⟨lw_r2, List.forall_mem_append.mpr ⟨lw_r3, List.forall_mem_append.mpr ⟨lw_r4, List.forall_mem_append.mpr ⟨lw_r5, List.forall_mem_append.mpr ⟨lw_r6, lw_r7⟩⟩⟩⟩⟩⟩
-- ===== end of PART A; then your names; then what follows =====
end
section
/-! printed by wip/gen/data.py: the classes, their fields, the methods, the call sites -/
def z_T0 : u_T := fun k => match k with
  | 0 => ("DoorBench", "tape", "LDoorBench$Tape;", true)
  | 1 => ("DoorBench", "seated", "[LDoorBench$Bench;", true)
  | 2 => ("DoorBench", "trials", "[LDoorBench$Bench;", true)
  | 3 => ("DoorBench", "agendas", "I", false)
  | 4 => ("DoorBench", "bodies", "[LDoorBench$Way;", true)
  | 5 => ("DoorBench", "ways", "I", false)
  | 6 => ("DoorBench", "ran", "[I", true)
  | 7 => ("DoorBench", "sorts", "[I", true)
  | 8 => ("DoorBench", "sizes", "[I", true)
  | 9 => ("DoorBench", "elements", "[J", true)
  | 10 => ("DoorBench", "kept", "[LDoorBench$Way;", true)
  | 11 => ("DoorBench", "outcomes", "[I", true)
  | _ => ("DoorBench", "remembered", "[I", false)
def z_Y0 : Nat → FieldType := fun k => match k with
  | 0 => .object "DoorBench$Tape"
  | 1 => .array (.object "DoorBench$Bench")
  | 2 => .array (.object "DoorBench$Bench")
  | 3 => .int
  | 4 => .array (.object "DoorBench$Way")
  | 5 => .int
  | 6 => .array .int
  | 7 => .array .int
  | 8 => .array .int
  | 9 => .array .long
  | 10 => .array (.object "DoorBench$Way")
  | 11 => .array .int
  | _ => .array .int
def z_T1 : u_T := fun k => match k with
  | 0 => ("DoorBench$Tape", "bytes", "[I", true)
  | 1 => ("DoorBench$Tape", "length", "I", false)
  | 2 => ("DoorBench$Tape", "at", "I", false)
  | 3 => ("DoorBench$Tape", "fault", "I", false)
  | 4 => ("DoorBench$Tape", "questions", "I", false)
  | 5 => ("DoorBench$Tape", "premises", "I", false)
  | 6 => ("DoorBench$Tape", "ends", "I", false)
  | 7 => ("DoorBench$Tape", "ties", "I", false)
  | 8 => ("DoorBench$Tape", "numbers", "[I", true)
  | 9 => ("DoorBench$Tape", "tieStarts", "[I", true)
  | 10 => ("DoorBench$Tape", "block", "I", false)
  | _ => ("DoorBench$Tape", "reached", "[J", true)
def z_Y1 : Nat → FieldType := fun k => match k with
  | 0 => .array .int
  | 1 => .int
  | 2 => .int
  | 3 => .int
  | 4 => .int
  | 5 => .int
  | 6 => .int
  | 7 => .int
  | 8 => .array .int
  | 9 => .array .int
  | 10 => .int
  | _ => .array .long
def z_T2 : u_T := fun k => match k with
  | 0 => ("DoorBench$Agenda", "questions", "I", true)
  | 1 => ("DoorBench$Agenda", "all", "I", true)
  | 2 => ("DoorBench$Agenda", "premises", "I", true)
  | 3 => ("DoorBench$Agenda", "ends", "I", true)
  | 4 => ("DoorBench$Agenda", "ties", "I", true)
  | 5 => ("DoorBench$Agenda", "sets", "[I", true)
  | 6 => ("DoorBench$Agenda", "blocks", "I", true)
  | 7 => ("DoorBench$Agenda", "whole", "J", true)
  | 8 => ("DoorBench$Agenda", "keeping", "[J", true)
  | 9 => ("DoorBench$Agenda", "lawfulBits", "[J", true)
  | 10 => ("DoorBench$Agenda", "spans", "I", true)
  | 11 => ("DoorBench$Agenda", "yesOnes", "[J", true)
  | 12 => ("DoorBench$Agenda", "fewBits", "[J", true)
  | _ => ("DoorBench$Agenda", "few", "[I", true)
def z_Y2 : Nat → FieldType := fun k => match k with
  | 0 => .int
  | 1 => .int
  | 2 => .int
  | 3 => .int
  | 4 => .int
  | 5 => .array .int
  | 6 => .int
  | 7 => .long
  | 8 => .array .long
  | 9 => .array .long
  | 10 => .int
  | 11 => .array .long
  | 12 => .array .long
  | _ => .array .int
def z_T3 : u_T := fun k => match k with
  | 0 => ("DoorBench$Bench", "agenda", "LDoorBench$Agenda;", true)
  | 1 => ("DoorBench$Bench", "weights", "[I", true)
  | 2 => ("DoorBench$Bench", "yes", "[I", true)
  | 3 => ("DoorBench$Bench", "no", "[I", true)
  | 4 => ("DoorBench$Bench", "judges", "I", false)
  | 5 => ("DoorBench$Bench", "lean", "[I", true)
  | 6 => ("DoorBench$Bench", "lowLean", "[I", true)
  | 7 => ("DoorBench$Bench", "highLean", "[I", true)
  | 8 => ("DoorBench$Bench", "order", "[I", true)
  | 9 => ("DoorBench$Bench", "left", "[J", true)
  | 10 => ("DoorBench$Bench", "numbers", "[I", true)
  | _ => ("DoorBench$Bench", "before", "[I", true)
def z_Y3 : Nat → FieldType := fun k => match k with
  | 0 => .object "DoorBench$Agenda"
  | 1 => .array .int
  | 2 => .array .int
  | 3 => .array .int
  | 4 => .int
  | 5 => .array .int
  | 6 => .array .int
  | 7 => .array .int
  | 8 => .array .int
  | 9 => .array .long
  | 10 => .array .int
  | _ => .array .int
def z_T4 : u_T := fun k => match k with
  | 0 => ("DoorBench$Way", "kind", "I", true)
  | 1 => ("DoorBench$Way", "shift", "I", true)
  | 2 => ("DoorBench$Way", "judge", "I", true)
  | 3 => ("DoorBench$Way", "number", "I", true)
  | _ => ("DoorBench$Way", "ran", "[I", true)
def z_Y4 : Nat → FieldType := fun k => match k with
  | 0 => .int
  | 1 => .int
  | 2 => .int
  | 3 => .int
  | _ => .array .int
def z_T5 : u_T := fun k => match k with
  | 0 => ("DoorBench$Way", "kind", "I", true)
  | 1 => ("DoorBench$Way", "shift", "I", true)
  | 2 => ("DoorBench$Way", "judge", "I", true)
  | 3 => ("DoorBench$Way", "number", "I", true)
  | _ => ("DoorBench$Way", "ran", "[I", true)
def z_Y5 : Nat → FieldType := fun k => match k with
  | 0 => .int
  | 1 => .int
  | 2 => .int
  | 3 => .int
  | _ => .array .int
def z_T6 : u_T := fun k => match k with
  | 0 => ("DoorBench$Way", "kind", "I", true)
  | 1 => ("DoorBench$Way", "shift", "I", true)
  | 2 => ("DoorBench$Way", "judge", "I", true)
  | 3 => ("DoorBench$Way", "number", "I", true)
  | _ => ("DoorBench$Way", "ran", "[I", true)
def z_Y6 : Nat → FieldType := fun k => match k with
  | 0 => .int
  | 1 => .int
  | 2 => .int
  | 3 => .int
  | _ => .array .int
def z_T7 : u_T := fun k => match k with
  | 0 => ("DoorBench$Way", "kind", "I", true)
  | 1 => ("DoorBench$Way", "shift", "I", true)
  | 2 => ("DoorBench$Way", "judge", "I", true)
  | 3 => ("DoorBench$Way", "number", "I", true)
  | _ => ("DoorBench$Way", "ran", "[I", true)
def z_Y7 : Nat → FieldType := fun k => match k with
  | 0 => .int
  | 1 => .int
  | 2 => .int
  | 3 => .int
  | _ => .array .int
def z_T8 : u_T := fun k => match k with
  | 0 => ("DoorBench$Way", "kind", "I", true)
  | 1 => ("DoorBench$Way", "shift", "I", true)
  | 2 => ("DoorBench$Way", "judge", "I", true)
  | 3 => ("DoorBench$Way", "number", "I", true)
  | _ => ("DoorBench$Way", "ran", "[I", true)
def z_Y8 : Nat → FieldType := fun k => match k with
  | 0 => .int
  | 1 => .int
  | 2 => .int
  | 3 => .int
  | _ => .array .int
def z_T9 : u_T := fun k => match k with
  | 0 => ("DoorBench$Way", "kind", "I", true)
  | 1 => ("DoorBench$Way", "shift", "I", true)
  | 2 => ("DoorBench$Way", "judge", "I", true)
  | 3 => ("DoorBench$Way", "number", "I", true)
  | _ => ("DoorBench$Way", "ran", "[I", true)
def z_Y9 : Nat → FieldType := fun k => match k with
  | 0 => .int
  | 1 => .int
  | 2 => .int
  | 3 => .int
  | _ => .array .int
def z_T10 : u_T := fun k => match k with
  | 0 => ("DoorBench$Way", "kind", "I", true)
  | 1 => ("DoorBench$Way", "shift", "I", true)
  | 2 => ("DoorBench$Way", "judge", "I", true)
  | 3 => ("DoorBench$Way", "number", "I", true)
  | _ => ("DoorBench$Way", "ran", "[I", true)
def z_Y10 : Nat → FieldType := fun k => match k with
  | 0 => .int
  | 1 => .int
  | 2 => .int
  | 3 => .int
  | _ => .array .int
def z_T11 : u_T := fun k => match k with
  | 0 => ("DoorBench$Way", "kind", "I", true)
  | 1 => ("DoorBench$Way", "shift", "I", true)
  | 2 => ("DoorBench$Way", "judge", "I", true)
  | 3 => ("DoorBench$Way", "number", "I", true)
  | _ => ("DoorBench$Way", "ran", "[I", true)
def z_Y11 : Nat → FieldType := fun k => match k with
  | 0 => .int
  | 1 => .int
  | 2 => .int
  | 3 => .int
  | _ => .array .int
def z_T12 : u_T := fun k => match k with
  | 0 => ("DoorBenchModel", "tape", "[I", true)
  | 1 => ("DoorBenchModel", "tapeMany", "I", false)
  | 2 => ("DoorBenchModel", "text", "[I", true)
  | 3 => ("DoorBenchModel", "textMany", "[I", true)
  | 4 => ("DoorBenchModel", "letter", "[I", true)
  | 5 => ("DoorBenchModel", "questions", "[I", true)
  | 6 => ("DoorBenchModel", "ties", "[I", true)
  | 7 => ("DoorBenchModel", "tieAt", "[I", true)
  | 8 => ("DoorBenchModel", "premises", "[I", true)
  | 9 => ("DoorBenchModel", "endsOf", "[I", true)
  | 10 => ("DoorBenchModel", "breaks", "[I", true)
  | 11 => ("DoorBenchModel", "lawfulSets", "[I", true)
  | 12 => ("DoorBenchModel", "lawfulMany", "[I", true)
  | 13 => ("DoorBenchModel", "agendas", "I", false)
  | 14 => ("DoorBenchModel", "weight", "[I", true)
  | 15 => ("DoorBenchModel", "yesOf", "[I", true)
  | 16 => ("DoorBenchModel", "noOf", "[I", true)
  | 17 => ("DoorBenchModel", "judges", "[I", true)
  | 18 => ("DoorBenchModel", "kind", "[I", true)
  | 19 => ("DoorBenchModel", "shift", "[I", true)
  | 20 => ("DoorBenchModel", "chair", "[I", true)
  | 21 => ("DoorBenchModel", "ways", "I", false)
  | 22 => ("DoorBenchModel", "reads", "I", false)
  | 23 => ("DoorBenchModel", "isTape", "Z", false)
  | 24 => ("DoorBenchModel", "at", "I", false)
  | 25 => ("DoorBenchModel", "ends", "I", false)
  | 26 => ("DoorBenchModel", "fault", "I", false)
  | 27 => ("DoorBenchModel", "opened", "I", false)
  | 28 => ("DoorBenchModel", "set", "I", false)
  | 29 => ("DoorBenchModel", "bench", "I", false)
  | 30 => ("DoorBenchModel", "sits", "I", false)
  | 31 => ("DoorBenchModel", "sitsWeight", "[I", true)
  | 32 => ("DoorBenchModel", "sitsYes", "[I", true)
  | 33 => ("DoorBenchModel", "sitsNo", "[I", true)
  | 34 => ("DoorBenchModel", "yes", "I", false)
  | 35 => ("DoorBenchModel", "no", "I", false)
  | 36 => ("DoorBenchModel", "order", "[I", true)
  | 37 => ("DoorBenchModel", "numbers", "[I", true)
  | 38 => ("DoorBenchModel", "rowYes", "[I", true)
  | 39 => ("DoorBenchModel", "rowNo", "[I", true)
  | 40 => ("DoorBenchModel", "rowNumbers", "[I", true)
  | 41 => ("DoorBenchModel", "rowMany", "I", false)
  | 42 => ("DoorBenchModel", "mendSets", "[I", true)
  | 43 => ("DoorBenchModel", "mendMany", "I", false)
  | 44 => ("DoorBenchModel", "ordersMany", "I", false)
  | 45 => ("DoorBenchModel", "firstOrder", "I", false)
  | 46 => ("DoorBenchModel", "trace", "[I", true)
  | 47 => ("DoorBenchModel", "ran", "I", false)
  | 48 => ("DoorBenchModel", "acting", "I", false)
  | 49 => ("DoorBenchModel", "shelf", "[I", true)
  | 50 => ("DoorBenchModel", "many", "[I", true)
  | 51 => ("DoorBenchModel", "items", "[J", true)
  | _ => ("DoorBenchModel", "carried", "[J", true)
def z_Y12 : Nat → FieldType := fun k => match k with
  | 0 => .array .int
  | 1 => .int
  | 2 => .array .int
  | 3 => .array .int
  | 4 => .array .int
  | 5 => .array .int
  | 6 => .array .int
  | 7 => .array .int
  | 8 => .array .int
  | 9 => .array .int
  | 10 => .array .int
  | 11 => .array .int
  | 12 => .array .int
  | 13 => .int
  | 14 => .array .int
  | 15 => .array .int
  | 16 => .array .int
  | 17 => .array .int
  | 18 => .array .int
  | 19 => .array .int
  | 20 => .array .int
  | 21 => .int
  | 22 => .int
  | 23 => .boolean
  | 24 => .int
  | 25 => .int
  | 26 => .int
  | 27 => .int
  | 28 => .int
  | 29 => .int
  | 30 => .int
  | 31 => .array .int
  | 32 => .array .int
  | 33 => .array .int
  | 34 => .int
  | 35 => .int
  | 36 => .array .int
  | 37 => .array .int
  | 38 => .array .int
  | 39 => .array .int
  | 40 => .array .int
  | 41 => .int
  | 42 => .array .int
  | 43 => .int
  | 44 => .int
  | 45 => .int
  | 46 => .array .int
  | 47 => .int
  | 48 => .int
  | 49 => .array .int
  | 50 => .array .int
  | 51 => .array .long
  | _ => .array .long
abbrev z_cl : List vw_C := [("DoorBench", z_T0, 13), ("DoorBench$Tape", z_T1, 12), ("DoorBench$Agenda", z_T2, 14), ("DoorBench$Bench", z_T3, 12), ("DoorBench$Way", z_T4, 5), ("DoorBench$Heads", z_T5, 5), ("DoorBench$Premises", z_T6, 5), ("DoorBench$Ends", z_T7, 5), ("DoorBench$Near", z_T8, 5), ("DoorBench$Turns", z_T9, 5), ("DoorBench$Chair", z_T10, 5), ("DoorBench$Leader", z_T11, 5), ("DoorBenchModel", z_T12, 53)]
def z_tyl : List (Nat → FieldType) := [z_Y0, z_Y1, z_Y2, z_Y3, z_Y4, z_Y5, z_Y6, z_Y7, z_Y8, z_Y9, z_Y10, z_Y11, z_Y12]
def z_fty (ci k : Nat) : FieldType := ((z_tyl[ci]?).getD (fun _ => .int)) k
/-- the tables in pieces: a place is the piece times 1000 and the place in it -/
def z_tk : List (List Jvm.Cond) := [k2_sels lw_privs, tables_1_1, tables_1_2, tables_1_3, tables_1_4, tables_1_5, tables_1_6, tables_1_7, tables_1_8]
def z_cnl : List String := ["DoorBench", "DoorBench$Tape", "DoorBench$Agenda", "DoorBench$Bench", "DoorBench$Way", "DoorBench$Heads", "DoorBench$Premises", "DoorBench$Ends", "DoorBench$Near", "DoorBench$Turns", "DoorBench$Chair", "DoorBench$Leader", "DoorBenchModel", "DoorBenchLaw", "java/util/Arrays", "java/lang/Integer", "java/lang/Long", "java/lang/Math"]
def z_cn (c : Nat) : String := (z_cnl[c]?).getD ""
/-- the methods: name, bytes, locals, what it returns, its own class; number 0 is the law -/
def z_mq0 : List ((MethodName × ByteArray × Nat × Option FieldType × Nat) × Nat) := [((⟨"DoorBench", "<init>", "()V"⟩, prog_1_method_1_code, 1, none, 0), 1024),
  ((⟨"DoorBench$Tape", "<init>", "()V"⟩, prog_10_method_1_code, 1, none, 1), 1032),
  ((⟨"DoorBench", "feed", "(II)I"⟩, prog_1_method_2_code, 3, some (.int), 0), 1121),
  ((⟨"DoorBench$Tape", "take", "(II)Z"⟩, prog_10_method_2_code, 4, some (.boolean), 1), 1125),
  ((⟨"DoorBench", "agenda", "()I"⟩, prog_1_method_3_code, 3, some (.int), 0), 1129),
  ((⟨"DoorBench$Tape", "findFault", "()I"⟩, prog_10_method_3_code, 2, some (.int), 1), 1133),
  ((⟨"java/util/Arrays", "fill", "([II)V"⟩, prog_20_method_103_code, 4, none, 14), 1136),
  ((⟨"DoorBench$Tape", "expect", "(I)V"⟩, prog_10_method_5_code, 2, none, 1), 1140),
  ((⟨"DoorBench$Tape", "nameQuestions", "()V"⟩, prog_10_method_8_code, 3, none, 1), 1144),
  ((⟨"DoorBench$Tape", "fail", "()V"⟩, prog_10_method_6_code, 1, none, 1), 1148),
  ((⟨"DoorBench$Tape", "anotherPart", "()V"⟩, prog_10_method_9_code, 1, none, 1), 1152),
  ((⟨"DoorBench$Tape", "passes", "(I)Z"⟩, prog_10_method_4_code, 2, some (.boolean), 1), 1156),
  ((⟨"DoorBench$Tape", "someQuestions", "()I"⟩, prog_10_method_10_code, 4, some (.int), 1), 1160),
  ((⟨"DoorBench$Tape", "questionHere", "()I"⟩, prog_10_method_7_code, 2, some (.int), 1), 1164),
  ((⟨"DoorBench$Tape", "tie", "(I)J"⟩, prog_10_method_11_code, 7, some (.long), 1), 1168),
  ((⟨"DoorBench$Tape", "either", "(I)J"⟩, prog_10_method_12_code, 7, some (.long), 1), 1173),
  ((⟨"DoorBench$Tape", "simple", "(I)J"⟩, prog_10_method_13_code, 5, some (.long), 1), 1177),
  ((⟨"DoorBench$Tape", "yesSets", "(I)J"⟩, prog_10_method_14_code, 2, some (.long), 1), 1181),
  ((⟨"DoorBench$Tape", "atLeast", "(II)J"⟩, prog_10_method_15_code, 8, some (.long), 1), 1187),
  ((⟨"java/util/Arrays", "fill", "([JIIJ)V"⟩, prog_20_method_102_code, 6, none, 14), 1190),
  ((⟨"java/util/Arrays", "rangeCheck", "(III)V"⟩, prog_20_method_30_code, 3, none, 14), 1193),
  ((⟨"DoorBench$Tape", "told", "()LDoorBench$Agenda;"⟩, prog_10_method_16_code, 7, some (.object "DoorBench$Agenda"), 1), 1197),
  ((⟨"DoorBench$Agenda", "<init>", "(IIII[J)V"⟩, prog_2_method_1_code, 8, none, 2), 1202),
  ((⟨"DoorBench$Agenda", "keptWithout", "(II)J"⟩, prog_2_method_3_code, 6, some (.long), 2), 1208),
  ((⟨"java/lang/Long", "bitCount", "(J)I"⟩, prog_16_method_50_code, 2, some (.int), 16), 1211),
  ((⟨"DoorBench$Agenda", "listSets", "()V"⟩, prog_2_method_2_code, 4, none, 2), 1218),
  ((⟨"DoorBench$Agenda", "isLawful", "(I)Z"⟩, prog_2_method_7_code, 2, some (.boolean), 2), 1222),
  ((⟨"DoorBench$Agenda", "hasSet", "(I)Z"⟩, prog_2_method_5_code, 2, some (.boolean), 2), 1226),
  ((⟨"DoorBench", "found", "(LDoorBench$Agenda;)I"⟩, prog_1_method_4_code, 2, some (.int), 0), 2049),
  ((⟨"DoorBench$Agenda", "impossibleTies", "()I"⟩, prog_2_method_18_code, 6, some (.int), 2), 2053),
  ((⟨"java/lang/Integer", "bitCount", "(I)I"⟩, prog_15_method_49_code, 1, some (.int), 15), 2056),
  ((⟨"DoorBench$Agenda", "noneKeeps", "(I)Z"⟩, prog_2_method_19_code, 3, some (.boolean), 2), 2063),
  ((⟨"DoorBench$Bench", "<init>", "(LDoorBench$Agenda;)V"⟩, prog_3_method_1_code, 2, none, 3), 2067),
  ((⟨"DoorBench", "of", "(II)I"⟩, prog_1_method_5_code, 4, some (.int), 0), 2130),
  ((⟨"DoorBench", "benchOf", "(I)LDoorBench$Bench;"⟩, prog_1_method_45_code, 2, some (.object "DoorBench$Bench"), 0), 2134),
  ((⟨"DoorBench", "lawful", "(II)I"⟩, prog_1_method_6_code, 4, some (.int), 0), 2138),
  ((⟨"DoorBench", "agendaOf", "(I)LDoorBench$Agenda;"⟩, prog_1_method_46_code, 2, some (.object "DoorBench$Agenda"), 0), 2142),
  ((⟨"DoorBench", "broken", "(II)I"⟩, prog_1_method_7_code, 4, some (.int), 0), 2146),
  ((⟨"DoorBench$Agenda", "answersOf", "(I)I"⟩, prog_2_method_8_code, 2, some (.int), 2), 2151),
  ((⟨"DoorBench$Agenda", "tiesBrokenBy", "(I)I"⟩, prog_2_method_16_code, 7, some (.int), 2), 2155)]
def z_mq1 : List ((MethodName × ByteArray × Nat × Option FieldType × Nat) × Nat) := [((⟨"DoorBench$Agenda", "setsHaving", "(II)J"⟩, prog_2_method_17_code, 9, some (.long), 2), 2159),
  ((⟨"DoorBench", "stands", "(III)I"⟩, prog_1_method_8_code, 5, some (.int), 0), 2164),
  ((⟨"DoorBench$Agenda", "canBeTold", "(II)Z"⟩, prog_2_method_6_code, 3, some (.boolean), 2), 2168),
  ((⟨"DoorBench$Agenda", "canStand", "(I)Z"⟩, prog_2_method_13_code, 3, some (.boolean), 2), 2172),
  ((⟨"DoorBench$Agenda", "having", "(II)J"⟩, prog_2_method_12_code, 6, some (.long), 2), 2176),
  ((⟨"DoorBench$Agenda", "wholeSpan", "(I)J"⟩, prog_2_method_10_code, 3, some (.long), 2), 2180),
  ((⟨"DoorBench", "forced", "(IIII)I"⟩, prog_1_method_9_code, 7, some (.int), 0), 2184),
  ((⟨"DoorBench$Agenda", "hasQuestion", "(I)Z"⟩, prog_2_method_4_code, 2, some (.boolean), 2), 2188),
  ((⟨"DoorBench$Agenda", "implied", "(I)I"⟩, prog_2_method_14_code, 10, some (.int), 2), 2192),
  ((⟨"DoorBench", "why", "(III)I"⟩, prog_1_method_10_code, 6, some (.int), 0), 2196),
  ((⟨"DoorBench$Agenda", "smallestFallen", "(I)I"⟩, prog_2_method_15_code, 7, some (.int), 2), 2200),
  ((⟨"DoorBench", "judge", "(IIII)I"⟩, prog_1_method_11_code, 6, some (.int), 0), 2205),
  ((⟨"DoorBench$Bench", "seat", "(III)V"⟩, prog_3_method_4_code, 4, none, 3), 2209),
  ((⟨"DoorBench$Bench", "alter", "(III)V"⟩, prog_3_method_5_code, 8, none, 3), 2213),
  ((⟨"DoorBench", "change", "(IIII)I"⟩, prog_1_method_12_code, 6, some (.int), 0), 2217),
  ((⟨"DoorBench$Bench", "hasJudge", "(I)Z"⟩, prog_3_method_2_code, 2, some (.boolean), 3), 2221),
  ((⟨"DoorBench", "read", "(IIII)I"⟩, prog_1_method_13_code, 7, some (.int), 0), 2226),
  ((⟨"DoorBench", "isShelf", "(I)Z"⟩, prog_1_method_48_code, 1, some (.boolean), 0), 2229),
  ((⟨"DoorBench", "answersFrom", "(III)I"⟩, prog_1_method_14_code, 7, some (.int), 0), 2233),
  ((⟨"DoorBench", "clear", "(I)I"⟩, prog_1_method_15_code, 4, some (.int), 0), 2238),
  ((⟨"DoorBench$Bench", "dismiss", "()V"⟩, prog_3_method_6_code, 1, none, 3), 3002),
  ((⟨"DoorBench", "ofJudge", "(III)I"⟩, prog_1_method_16_code, 5, some (.int), 0), 3007),
  ((⟨"DoorBench", "votes", "(III)I"⟩, prog_1_method_17_code, 5, some (.int), 0), 3011),
  ((⟨"DoorBench", "isEither", "(I)Z"⟩, prog_1_method_49_code, 1, some (.boolean), 0), 3014),
  ((⟨"DoorBench$Bench", "weightOn", "(I[I)I"⟩, prog_3_method_7_code, 5, some (.int), 3), 3018),
  ((⟨"DoorBench", "far", "(II)I"⟩, prog_1_method_18_code, 4, some (.int), 0), 3022),
  ((⟨"DoorBench$Bench", "distance", "(I)I"⟩, prog_3_method_8_code, 4, some (.int), 3), 3026),
  ((⟨"DoorBench", "nearest", "(II)I"⟩, prog_1_method_19_code, 4, some (.int), 0), 3031),
  ((⟨"DoorBench$Bench", "nearestAt", "(I)I"⟩, prog_3_method_13_code, 6, some (.int), 3), 3035),
  ((⟨"DoorBench$Bench", "sumLeans", "()V"⟩, prog_3_method_11_code, 3, none, 3), 3039),
  ((⟨"java/lang/Integer", "numberOfTrailingZeros", "(I)I"⟩, prog_15_method_48_code, 2, some (.int), 15), 3045),
  ((⟨"DoorBench$Bench", "leanOf", "(I)I"⟩, prog_3_method_10_code, 2, some (.int), 3), 3053),
  ((⟨"DoorBench", "way", "(III)I"⟩, prog_1_method_20_code, 6, some (.int), 0), 3057),
  ((⟨"DoorBench", "bodyOf", "(III)LDoorBench$Way;"⟩, prog_1_method_21_code, 4, some (.object "DoorBench$Way"), 0), 3063),
  ((⟨"DoorBench$Heads", "<init>", "(II[I)V"⟩, prog_6_method_1_code, 4, none, 5), 3068),
  ((⟨"DoorBench$Way", "<init>", "(II[III)V"⟩, prog_12_method_1_code, 6, none, 4), 3071),
  ((⟨"DoorBench$Premises", "<init>", "(II[I)V"⟩, prog_9_method_1_code, 4, none, 6), 3102),
  ((⟨"DoorBench$Ends", "<init>", "(II[I)V"⟩, prog_5_method_1_code, 4, none, 7), 3114),
  ((⟨"DoorBench$Near", "<init>", "(II[I)V"⟩, prog_8_method_1_code, 4, none, 8), 3126),
  ((⟨"DoorBench$Turns", "<init>", "(II[III)V"⟩, prog_11_method_1_code, 6, none, 9), 3138)]
def z_mq2 : List ((MethodName × ByteArray × Nat × Option FieldType × Nat) × Nat) := [((⟨"DoorBench$Chair", "<init>", "(II[III)V"⟩, prog_4_method_1_code, 6, none, 10), 3150),
  ((⟨"DoorBench$Leader", "<init>", "(II[III)V"⟩, prog_7_method_1_code, 6, none, 11), 3162),
  ((⟨"DoorBench", "ofWay", "(II)I"⟩, prog_1_method_22_code, 4, some (.int), 0), 3181),
  ((⟨"DoorBench", "bodyAt", "(I)LDoorBench$Way;"⟩, prog_1_method_47_code, 2, some (.object "DoorBench$Way"), 0), 3185),
  ((⟨"DoorBench", "outcome", "(III)I"⟩, prog_1_method_23_code, 7, some (.int), 0), 3189),
  ((⟨"DoorBench$Turns", "decide", "(LDoorBench$Bench;)I"⟩, prog_11_method_2_code, 2, some (.int), 9), 3196),
  ((⟨"DoorBench$Bench", "orderFrom", "(I)V"⟩, prog_3_method_14_code, 4, none, 3), 3200),
  ((⟨"DoorBench$Chair", "openYes", "(LDoorBench$Bench;)I"⟩, prog_4_method_2_code, 2, some (.int), 10), 3207),
  ((⟨"DoorBench$Turns", "openYes", "(LDoorBench$Bench;)I"⟩, prog_11_method_3_code, 2, some (.int), 9), 3209),
  ((⟨"DoorBench$Bench", "inTurns", "(I)I"⟩, prog_3_method_15_code, 7, some (.int), 3), 3213),
  ((⟨"DoorBench$Bench", "isYesInTurn", "(IZ)Z"⟩, prog_3_method_16_code, 6, some (.boolean), 3), 3218),
  ((⟨"DoorBench$Agenda", "answering", "(IZI)J"⟩, prog_2_method_11_code, 6, some (.long), 2), 3222),
  ((⟨"DoorBench$Ends", "decide", "(LDoorBench$Bench;)I"⟩, prog_5_method_2_code, 5, some (.int), 7), 3225),
  ((⟨"DoorBench$Agenda", "both", "(I)I"⟩, prog_2_method_9_code, 1, some (.int), 2), 3228),
  ((⟨"DoorBench$Bench", "byHeads", "()I"⟩, prog_3_method_9_code, 3, some (.int), 3), 3232),
  ((⟨"DoorBench$Bench", "nearestWith", "(I)I"⟩, prog_3_method_12_code, 10, some (.int), 3), 3236),
  ((⟨"DoorBench$Heads", "decide", "(LDoorBench$Bench;)I"⟩, prog_6_method_2_code, 2, some (.int), 5), 4002),
  ((⟨"DoorBench$Leader", "decide", "(LDoorBench$Bench;)I"⟩, prog_7_method_2_code, 4, some (.int), 11), 4006),
  ((⟨"DoorBench$Near", "decide", "(LDoorBench$Bench;)I"⟩, prog_8_method_2_code, 2, some (.int), 8), 4011),
  ((⟨"DoorBench$Premises", "decide", "(LDoorBench$Bench;)I"⟩, prog_9_method_2_code, 5, some (.int), 6), 4017),
  ((⟨"DoorBench$Way", "decide", "(LDoorBench$Bench;)I"⟩, prog_12_method_3_code, 2, some (.int), 4), 4022),
  ((⟨"DoorBench", "benches", "(II)I"⟩, prog_1_method_24_code, 4, some (.int), 0), 4026),
  ((⟨"DoorBench", "refusalOfAll", "(II)I"⟩, prog_1_method_50_code, 4, some (.int), 0), 4030),
  ((⟨"DoorBench$Bench", "manyOf", "(I)I"⟩, prog_3_method_21_code, 2, some (.int), 3), 4034),
  ((⟨"DoorBench", "choose", "(II)I"⟩, prog_1_method_54_code, 2, some (.int), 0), 4037),
  ((⟨"DoorBench", "unlawful", "(IIII)I"⟩, prog_1_method_25_code, 7, some (.int), 0), 4043),
  ((⟨"DoorBench$Way", "unlawfulOnes", "(LDoorBench$Bench;IZ)I"⟩, prog_12_method_9_code, 7, some (.int), 4), 4055),
  ((⟨"DoorBench$Bench", "sitFirst", "(I)I"⟩, prog_3_method_22_code, 3, some (.int), 3), 4059),
  ((⟨"DoorBench$Bench", "toldNumbers", "()I"⟩, prog_3_method_25_code, 3, some (.int), 3), 4068),
  ((⟨"DoorBench$Bench", "sitNext", "()V"⟩, prog_3_method_23_code, 5, none, 3), 4072),
  ((⟨"DoorBench$Bench", "settle", "()V"⟩, prog_3_method_24_code, 3, none, 3), 4076),
  ((⟨"DoorBench", "unlike", "(IIIII)I"⟩, prog_1_method_26_code, 9, some (.int), 0), 4080),
  ((⟨"DoorBench$Way", "unlikeOnes", "(LDoorBench$Way;LDoorBench$Bench;IZ)I"⟩, prog_12_method_10_code, 8, some (.int), 4), 4092),
  ((⟨"DoorBench", "sway", "(IIII)I"⟩, prog_1_method_27_code, 8, some (.int), 0), 4096),
  ((⟨"DoorBench$Way", "yesOnes", "(LDoorBench$Bench;II)I"⟩, prog_12_method_11_code, 7, some (.int), 4), 4108),
  ((⟨"DoorBench", "twist", "(III)I"⟩, prog_1_method_28_code, 6, some (.int), 0), 4112),
  ((⟨"DoorBench$Bench", "isSilent", "(I)Z"⟩, prog_3_method_3_code, 2, some (.boolean), 3), 4116),
  ((⟨"DoorBench$Way", "bestTwist", "(LDoorBench$Bench;I)I"⟩, prog_12_method_12_code, 11, some (.int), 4), 4128),
  ((⟨"DoorBench", "twisted", "(III)I"⟩, prog_1_method_29_code, 6, some (.int), 0), 4135),
  ((⟨"DoorBench$Way", "twistedOnes", "(LDoorBench$Bench;I[I)I"⟩, prog_12_method_13_code, 10, some (.int), 4), 4147)]
def z_mq3 : List ((MethodName × ByteArray × Nat × Option FieldType × Nat) × Nat) := [((⟨"DoorBench$Bench", "rank", "()I"⟩, prog_3_method_26_code, 3, some (.int), 3), 4152),
  ((⟨"DoorBench$Way", "recall", "(LDoorBench$Bench;I[I)I"⟩, prog_12_method_15_code, 5, some (.int), 4), 4156),
  ((⟨"DoorBench$Chair", "placeOf", "(LDoorBench$Bench;I)I"⟩, prog_4_method_3_code, 4, some (.int), 10), 4163),
  ((⟨"DoorBench$Leader", "placeOf", "(LDoorBench$Bench;I)I"⟩, prog_7_method_3_code, 3, some (.int), 11), 4168),
  ((⟨"DoorBench$Way", "placeOf", "(LDoorBench$Bench;I)I"⟩, prog_12_method_16_code, 3, some (.int), 4), 4172),
  ((⟨"DoorBench$Way", "twists", "(LDoorBench$Bench;II[I)Z"⟩, prog_12_method_14_code, 13, some (.boolean), 4), 4177),
  ((⟨"DoorBench$Bench", "rankOfOthers", "(I)I"⟩, prog_3_method_28_code, 4, some (.int), 3), 4181),
  ((⟨"DoorBench$Bench", "otherThan", "(II)I"⟩, prog_3_method_27_code, 3, some (.int), 3), 4185),
  ((⟨"DoorBench", "breach", "(IIII)I"⟩, prog_1_method_30_code, 7, some (.int), 0), 4191),
  ((⟨"DoorBench", "refusalOfRows", "(II)I"⟩, prog_1_method_51_code, 4, some (.int), 0), 4195),
  ((⟨"DoorBench$Way", "decideRows", "(LDoorBench$Bench;I[I)V"⟩, prog_12_method_17_code, 6, none, 4), 4207),
  ((⟨"DoorBench$Bench", "manyRows", "()I"⟩, prog_3_method_29_code, 3, some (.int), 3), 4211),
  ((⟨"DoorBench$Bench", "sitRow", "(I)V"⟩, prog_3_method_32_code, 2, none, 3), 4215),
  ((⟨"DoorBench$Bench", "numberAll", "(I)V"⟩, prog_3_method_31_code, 3, none, 3), 4219),
  ((⟨"DoorBench$Bench", "numberIn", "(II)I"⟩, prog_3_method_30_code, 6, some (.int), 3), 4223),
  ((⟨"DoorBench$Bench", "breachOf", "(I[I)I"⟩, prog_3_method_34_code, 4, some (.int), 3), 4227),
  ((⟨"DoorBench$Bench", "firstUnalike", "([II)I"⟩, prog_3_method_35_code, 4, some (.int), 3), 4232),
  ((⟨"DoorBench$Bench", "rowInOrder", "(I)I"⟩, prog_3_method_36_code, 6, some (.int), 3), 4236),
  ((⟨"DoorBench$Bench", "firstNotOwn", "([II)I"⟩, prog_3_method_37_code, 7, some (.int), 3), 5000),
  ((⟨"DoorBench$Bench", "whoSaysYes", "(I)I"⟩, prog_3_method_38_code, 4, some (.int), 3), 5004),
  ((⟨"DoorBench$Bench", "firstOtherMind", "([II)I"⟩, prog_3_method_39_code, 7, some (.int), 3), 5008),
  ((⟨"DoorBench$Bench", "firstUnlawful", "([II)I"⟩, prog_3_method_40_code, 4, some (.int), 3), 5013),
  ((⟨"DoorBench$Bench", "firstSomebody", "([II)I"⟩, prog_3_method_41_code, 6, some (.int), 3), 5018),
  ((⟨"DoorBench", "keeper", "(III)I"⟩, prog_1_method_31_code, 6, some (.int), 0), 5022),
  ((⟨"DoorBench$Bench", "keepsAll", "(I[I)Z"⟩, prog_3_method_33_code, 4, some (.boolean), 3), 5026),
  ((⟨"DoorBench", "mend", "(III)I"⟩, prog_1_method_32_code, 5, some (.int), 0), 5031),
  ((⟨"DoorBench$Agenda", "mendBy", "(II)I"⟩, prog_2_method_20_code, 8, some (.int), 2), 5035),
  ((⟨"DoorBench$Agenda", "isSafeWithout", "(II)Z"⟩, prog_2_method_21_code, 4, some (.boolean), 2), 5039),
  ((⟨"DoorBench$Agenda", "listFew", "(I)I"⟩, prog_2_method_22_code, 8, some (.int), 2), 5043),
  ((⟨"java/lang/Long", "numberOfTrailingZeros", "(J)I"⟩, prog_16_method_49_code, 3, some (.int), 16), 5046),
  ((⟨"DoorBench$Agenda", "foursStand", "(I)Z"⟩, prog_2_method_24_code, 12, some (.boolean), 2), 5051),
  ((⟨"DoorBench$Agenda", "someOfFew", "(III)Z"⟩, prog_2_method_25_code, 5, some (.boolean), 2), 5055),
  ((⟨"DoorBench$Agenda", "threesStand", "(I)Z"⟩, prog_2_method_23_code, 8, some (.boolean), 2), 5059),
  ((⟨"DoorBench", "orders", "(III)I"⟩, prog_1_method_33_code, 5, some (.int), 0), 5063),
  ((⟨"DoorBench$Bench", "ordersFor", "(IZ)I"⟩, prog_3_method_17_code, 6, some (.int), 3), 5067),
  ((⟨"DoorBench$Bench", "orderDigits", "()I"⟩, prog_3_method_18_code, 3, some (.int), 3), 5073),
  ((⟨"DoorBench$Bench", "nextOrder", "()V"⟩, prog_3_method_19_code, 6, none, 3), 5077),
  ((⟨"DoorBench$Bench", "swapOrder", "(II)V"⟩, prog_3_method_20_code, 4, none, 3), 5081),
  ((⟨"DoorBench", "act", "(III)I"⟩, prog_1_method_34_code, 5, some (.int), 0), 5085),
  ((⟨"DoorBench$Heads", "counts", "(I)I"⟩, prog_6_method_3_code, 2, some (.int), 5), 5093)]
def z_mq4 : List ((MethodName × ByteArray × Nat × Option FieldType × Nat) × Nat) := [((⟨"DoorBench$Way", "note", "(I)V"⟩, prog_12_method_4_code, 2, none, 4), 5101),
  ((⟨"DoorBench$Near", "counts", "(I)I"⟩, prog_8_method_3_code, 2, some (.int), 8), 5107),
  ((⟨"DoorBench$Way", "counts", "(I)I"⟩, prog_12_method_5_code, 2, some (.int), 4), 5114),
  ((⟨"DoorBench$Chair", "weighs", "(I)I"⟩, prog_4_method_5_code, 2, some (.int), 10), 5122),
  ((⟨"DoorBench$Turns", "weighs", "(I)I"⟩, prog_11_method_4_code, 2, some (.int), 9), 5128),
  ((⟨"DoorBench$Premises", "weighs", "(I)I"⟩, prog_9_method_3_code, 2, some (.int), 6), 5140),
  ((⟨"DoorBench$Way", "weighs", "(I)I"⟩, prog_12_method_6_code, 2, some (.int), 4), 5152),
  ((⟨"DoorBench$Chair", "binds", "(I)I"⟩, prog_4_method_4_code, 2, some (.int), 10), 5160),
  ((⟨"DoorBench$Ends", "binds", "(I)I"⟩, prog_5_method_3_code, 2, some (.int), 7), 5166),
  ((⟨"DoorBench$Way", "binds", "(I)I"⟩, prog_12_method_7_code, 2, some (.int), 4), 5177),
  ((⟨"DoorBench$Turns", "tells", "(I)I"⟩, prog_11_method_5_code, 2, some (.int), 9), 5184),
  ((⟨"DoorBench$Leader", "tells", "(I)I"⟩, prog_7_method_4_code, 2, some (.int), 11), 5190),
  ((⟨"DoorBench$Way", "tells", "(I)I"⟩, prog_12_method_8_code, 2, some (.int), 4), 5199),
  ((⟨"DoorBench", "trace", "(I)I"⟩, prog_1_method_35_code, 2, some (.int), 0), 5205),
  ((⟨"DoorBench", "keep", "(II)I"⟩, prog_1_method_36_code, 3, some (.int), 0), 5209),
  ((⟨"DoorBench", "row", "(III)I"⟩, prog_1_method_37_code, 4, some (.int), 0), 5213),
  ((⟨"DoorBench", "put", "(IIJ)I"⟩, prog_1_method_38_code, 6, some (.int), 0), 5218),
  ((⟨"DoorBench", "refusalOfPlace", "(II)I"⟩, prog_1_method_52_code, 3, some (.int), 0), 5222),
  ((⟨"DoorBench", "lowestBits", "(IJ)J"⟩, prog_1_method_39_code, 3, some (.long), 0), 5225),
  ((⟨"DoorBench", "element", "(II)J"⟩, prog_1_method_40_code, 3, some (.long), 0), 5229),
  ((⟨"DoorBench", "shift", "(IIIII)I"⟩, prog_1_method_41_code, 6, some (.int), 0), 5234),
  ((⟨"DoorBench", "hasPlaces", "(III)Z"⟩, prog_1_method_53_code, 4, some (.boolean), 0), 5238),
  ((⟨"DoorBench", "taken", "(II)I"⟩, prog_1_method_42_code, 4, some (.int), 0), 6005),
  ((⟨"DoorBench$Way", "isUnder", "(I)Z"⟩, prog_12_method_2_code, 4, some (.boolean), 4), 6017),
  ((⟨"DoorBench", "count", "(I)I"⟩, prog_1_method_43_code, 2, some (.int), 0), 6022),
  ((⟨"DoorBench", "allJudges", "()I"⟩, prog_1_method_44_code, 3, some (.int), 0), 6026),
  ((⟨"DoorBenchModel", "<init>", "()V"⟩, prog_14_method_1_code, 2, none, 12), 6031),
  ((⟨"DoorBenchModel", "feed", "(II)I"⟩, prog_14_method_4_code, 4, some (.int), 12), 6196),
  ((⟨"DoorBenchModel", "within", "(JJJ)Z"⟩, prog_14_method_2_code, 6, some (.boolean), 12), 6200),
  ((⟨"DoorBenchModel", "agenda", "()I"⟩, prog_14_method_22_code, 6, some (.int), 12), 6204),
  ((⟨"DoorBenchModel", "firstPart", "()V"⟩, prog_14_method_17_code, 5, none, 12), 6208),
  ((⟨"DoorBenchModel", "takes", "(I)Z"⟩, prog_14_method_7_code, 2, some (.boolean), 12), 6212),
  ((⟨"DoorBenchModel", "byteAt", "()I"⟩, prog_14_method_5_code, 1, some (.int), 12), 6216),
  ((⟨"DoorBenchModel", "wrong", "()Z"⟩, prog_14_method_6_code, 1, some (.boolean), 12), 6220),
  ((⟨"DoorBenchModel", "questionOf", "(I)I"⟩, prog_14_method_8_code, 3, some (.int), 12), 6226),
  ((⟨"DoorBenchModel", "otherPart", "()V"⟩, prog_14_method_18_code, 4, none, 12), 6230),
  ((⟨"DoorBenchModel", "letters", "()I"⟩, prog_14_method_16_code, 5, some (.int), 12), 6234),
  ((⟨"DoorBenchModel", "alike", "()Z"⟩, prog_14_method_9_code, 3, some (.boolean), 12), 6238),
  ((⟨"DoorBenchModel", "implied", "()Z"⟩, prog_14_method_10_code, 3, some (.boolean), 12), 7002),
  ((⟨"DoorBenchModel", "either", "()Z"⟩, prog_14_method_11_code, 3, some (.boolean), 12), 7006)]
def z_mq5 : List ((MethodName × ByteArray × Nat × Option FieldType × Nat) × Nat) := [((⟨"DoorBenchModel", "both", "()Z"⟩, prog_14_method_12_code, 3, some (.boolean), 12), 7010),
  ((⟨"DoorBenchModel", "one", "()Z"⟩, prog_14_method_14_code, 3, some (.boolean), 12), 7014),
  ((⟨"DoorBenchModel", "opens", "()Z"⟩, prog_14_method_13_code, 1, some (.boolean), 12), 7018),
  ((⟨"DoorBenchModel", "atLeast", "(I)Z"⟩, prog_14_method_15_code, 4, some (.boolean), 12), 7024),
  ((⟨"DoorBenchModel", "keeps", "(III)Z"⟩, prog_14_method_19_code, 4, some (.boolean), 12), 7028),
  ((⟨"DoorBenchModel", "smallestPart", "(I)I"⟩, prog_14_method_21_code, 6, some (.int), 12), 7032),
  ((⟨"DoorBenchModel", "countOf", "(I)I"⟩, prog_14_method_20_code, 3, some (.int), 12), 7035),
  ((⟨"DoorBenchModel", "of", "(II)I"⟩, prog_14_method_23_code, 3, some (.int), 12), 7039),
  ((⟨"DoorBenchModel", "isAgenda", "(I)Z"⟩, prog_14_method_3_code, 2, some (.boolean), 12), 7043),
  ((⟨"DoorBenchModel", "lawful", "(II)I"⟩, prog_14_method_24_code, 3, some (.int), 12), 7047),
  ((⟨"DoorBenchModel", "broken", "(II)I"⟩, prog_14_method_26_code, 3, some (.int), 12), 7051),
  ((⟨"DoorBenchModel", "isSet", "(II)Z"⟩, prog_14_method_25_code, 3, some (.boolean), 12), 7055),
  ((⟨"DoorBenchModel", "stands", "(III)I"⟩, prog_14_method_30_code, 4, some (.int), 12), 7059),
  ((⟨"DoorBenchModel", "areAnswers", "(III)Z"⟩, prog_14_method_27_code, 4, some (.boolean), 12), 7063),
  ((⟨"DoorBenchModel", "canStand", "(III)Z"⟩, prog_14_method_29_code, 6, some (.boolean), 12), 7067),
  ((⟨"DoorBenchModel", "hasThese", "(III)Z"⟩, prog_14_method_28_code, 3, some (.boolean), 12), 7070),
  ((⟨"DoorBenchModel", "forced", "(IIII)I"⟩, prog_14_method_33_code, 5, some (.int), 12), 7074),
  ((⟨"DoorBenchModel", "isQuestion", "(II)Z"⟩, prog_14_method_32_code, 3, some (.boolean), 12), 7078),
  ((⟨"DoorBenchModel", "forcedBy", "(IIII)I"⟩, prog_14_method_31_code, 9, some (.int), 12), 7082),
  ((⟨"DoorBenchModel", "why", "(III)I"⟩, prog_14_method_34_code, 9, some (.int), 12), 7086),
  ((⟨"DoorBenchModel", "judge", "(IIII)I"⟩, prog_14_method_36_code, 6, some (.int), 12), 7090),
  ((⟨"DoorBenchModel", "change", "(IIII)I"⟩, prog_14_method_37_code, 5, some (.int), 12), 7095),
  ((⟨"DoorBenchModel", "isJudge", "(II)Z"⟩, prog_14_method_35_code, 3, some (.boolean), 12), 7099),
  ((⟨"DoorBenchModel", "read", "(IIII)I"⟩, prog_14_method_38_code, 12, some (.int), 12), 7103),
  ((⟨"DoorBenchModel", "isShelf", "(I)Z"⟩, prog_14_method_97_code, 1, some (.boolean), 12), 7106),
  ((⟨"DoorBenchModel", "clear", "(I)I"⟩, prog_14_method_39_code, 3, some (.int), 12), 7111),
  ((⟨"DoorBenchModel", "ofJudge", "(III)I"⟩, prog_14_method_40_code, 5, some (.int), 12), 7115),
  ((⟨"DoorBenchModel", "votes", "(III)I"⟩, prog_14_method_47_code, 4, some (.int), 12), 7120),
  ((⟨"DoorBenchModel", "sitDown", "(I)V"⟩, prog_14_method_41_code, 3, none, 12), 7124),
  ((⟨"DoorBenchModel", "votesFor", "(II)I"⟩, prog_14_method_44_code, 5, some (.int), 12), 7128),
  ((⟨"DoorBenchModel", "far", "(II)I"⟩, prog_14_method_48_code, 3, some (.int), 12), 7132),
  ((⟨"DoorBenchModel", "farFrom", "(I)I"⟩, prog_14_method_46_code, 4, some (.int), 12), 7136),
  ((⟨"DoorBenchModel", "nearest", "(II)I"⟩, prog_14_method_49_code, 7, some (.int), 12), 7140),
  ((⟨"DoorBenchModel", "nearestOf", "(II)I"⟩, prog_14_method_50_code, 6, some (.int), 12), 7144),
  ((⟨"DoorBenchModel", "way", "(III)I"⟩, prog_14_method_51_code, 4, some (.int), 12), 7148),
  ((⟨"DoorBenchModel", "ofWay", "(II)I"⟩, prog_14_method_53_code, 3, some (.int), 12), 7154),
  ((⟨"DoorBenchModel", "isWay", "(I)Z"⟩, prog_14_method_52_code, 2, some (.boolean), 12), 7158),
  ((⟨"DoorBenchModel", "outcome", "(III)I"⟩, prog_14_method_63_code, 4, some (.int), 12), 7162),
  ((⟨"DoorBenchModel", "find", "(I)V"⟩, prog_14_method_60_code, 3, none, 12), 7166),
  ((⟨"DoorBenchModel", "all", "()I"⟩, prog_14_method_42_code, 1, some (.int), 12), 7170)]
def z_mq6 : List ((MethodName × ByteArray × Nat × Option FieldType × Nat) × Nat) := [((⟨"DoorBenchModel", "byHeads", "(I)V"⟩, prog_14_method_55_code, 3, none, 12), 7174),
  ((⟨"DoorBenchModel", "heads", "(I)I"⟩, prog_14_method_45_code, 4, some (.int), 12), 7178),
  ((⟨"DoorBenchModel", "answer", "(II)V"⟩, prog_14_method_54_code, 3, none, 12), 7182),
  ((⟨"DoorBenchModel", "byPremises", "()V"⟩, prog_14_method_56_code, 4, none, 12), 7186),
  ((⟨"DoorBenchModel", "byEnds", "()V"⟩, prog_14_method_57_code, 3, none, 12), 7190),
  ((⟨"DoorBenchModel", "byTurns", "(I)V"⟩, prog_14_method_58_code, 6, none, 12), 7194),
  ((⟨"DoorBenchModel", "byLeader", "(I)V"⟩, prog_14_method_59_code, 3, none, 12), 7198),
  ((⟨"DoorBenchModel", "brokenBy", "()I"⟩, prog_14_method_61_code, 3, some (.int), 12), 7202),
  ((⟨"DoorBenchModel", "isUnlawful", "()Z"⟩, prog_14_method_62_code, 1, some (.boolean), 12), 7206),
  ((⟨"DoorBenchModel", "benches", "(II)I"⟩, prog_14_method_69_code, 6, some (.int), 12), 7210),
  ((⟨"DoorBenchModel", "noBenches", "(II)I"⟩, prog_14_method_68_code, 3, some (.int), 12), 7214),
  ((⟨"DoorBenchModel", "begin", "(II)V"⟩, prog_14_method_64_code, 4, none, 12), 7218),
  ((⟨"DoorBenchModel", "seatAll", "()V"⟩, prog_14_method_65_code, 2, none, 12), 7222),
  ((⟨"DoorBenchModel", "seat", "(II)V"⟩, prog_14_method_43_code, 3, none, 12), 7226),
  ((⟨"DoorBenchModel", "goOn", "(Z)Z"⟩, prog_14_method_66_code, 5, some (.boolean), 12), 7230),
  ((⟨"DoorBenchModel", "unlawful", "(IIII)I"⟩, prog_14_method_70_code, 10, some (.int), 12), 7234),
  ((⟨"DoorBenchModel", "code", "()I"⟩, prog_14_method_67_code, 3, some (.int), 12), 7238),
  ((⟨"DoorBenchModel", "unlike", "(IIIII)I"⟩, prog_14_method_71_code, 13, some (.int), 12), 8002),
  ((⟨"DoorBenchModel", "sway", "(IIII)I"⟩, prog_14_method_72_code, 8, some (.int), 12), 8006),
  ((⟨"DoorBenchModel", "twist", "(III)I"⟩, prog_14_method_75_code, 4, some (.int), 12), 8010),
  ((⟨"DoorBenchModel", "twistOf", "(II)I"⟩, prog_14_method_74_code, 9, some (.int), 12), 8014),
  ((⟨"DoorBenchModel", "apart", "(I)I"⟩, prog_14_method_73_code, 2, some (.int), 12), 8018),
  ((⟨"DoorBenchModel", "twisted", "(III)I"⟩, prog_14_method_76_code, 9, some (.int), 12), 8022),
  ((⟨"DoorBenchModel", "breach", "(IIII)I"⟩, prog_14_method_83_code, 5, some (.int), 12), 8026),
  ((⟨"DoorBenchModel", "breachOf", "(IIII)I"⟩, prog_14_method_82_code, 8, some (.int), 12), 8031),
  ((⟨"DoorBenchModel", "findRows", "(III)V"⟩, prog_14_method_77_code, 6, none, 12), 8035),
  ((⟨"DoorBenchModel", "setOf", "(II)I"⟩, prog_14_method_78_code, 3, some (.int), 12), 8039),
  ((⟨"DoorBenchModel", "sortedRow", "(II)I"⟩, prog_14_method_79_code, 7, some (.int), 12), 8043),
  ((⟨"DoorBenchModel", "isOwn", "(II)Z"⟩, prog_14_method_80_code, 8, some (.boolean), 12), 8047),
  ((⟨"DoorBenchModel", "isMinded", "(II)Z"⟩, prog_14_method_81_code, 5, some (.boolean), 12), 8051),
  ((⟨"DoorBenchModel", "keeper", "(III)I"⟩, prog_14_method_84_code, 7, some (.int), 12), 8055),
  ((⟨"DoorBenchModel", "mend", "(III)I"⟩, prog_14_method_86_code, 8, some (.int), 12), 8060),
  ((⟨"DoorBenchModel", "mends", "(III)Z"⟩, prog_14_method_85_code, 10, some (.boolean), 12), 8064),
  ((⟨"DoorBenchModel", "orders", "(III)I"⟩, prog_14_method_88_code, 4, some (.int), 12), 8068),
  ((⟨"DoorBenchModel", "tryOrders", "(IIII)V"⟩, prog_14_method_87_code, 6, none, 12), 8072),
  ((⟨"DoorBenchModel", "act", "(III)I"⟩, prog_14_method_95_code, 4, some (.int), 12), 8076),
  ((⟨"DoorBenchModel", "counts", "(II)I"⟩, prog_14_method_91_code, 3, some (.int), 12), 8080),
  ((⟨"DoorBenchModel", "ranBody", "(I)V"⟩, prog_14_method_90_code, 2, none, 12), 8084),
  ((⟨"DoorBenchModel", "above", "(I)I"⟩, prog_14_method_89_code, 1, some (.int), 12), 8087),
  ((⟨"DoorBenchModel", "weighs", "(II)I"⟩, prog_14_method_92_code, 4, some (.int), 12), 8091)]
def z_mq7 : List ((MethodName × ByteArray × Nat × Option FieldType × Nat) × Nat) := [((⟨"DoorBenchModel", "binds", "(II)I"⟩, prog_14_method_93_code, 3, some (.int), 12), 8095),
  ((⟨"DoorBenchModel", "tells", "(II)I"⟩, prog_14_method_94_code, 4, some (.int), 12), 8099),
  ((⟨"DoorBenchModel", "trace", "(I)I"⟩, prog_14_method_96_code, 2, some (.int), 12), 8103),
  ((⟨"DoorBenchModel", "keep", "(II)I"⟩, prog_14_method_98_code, 3, some (.int), 12), 8107),
  ((⟨"DoorBenchModel", "row", "(III)I"⟩, prog_14_method_99_code, 5, some (.int), 12), 8111),
  ((⟨"DoorBenchModel", "put", "(IIJ)I"⟩, prog_14_method_102_code, 6, some (.int), 12), 8115),
  ((⟨"DoorBenchModel", "refusal", "(II)I"⟩, prog_14_method_100_code, 3, some (.int), 12), 8119),
  ((⟨"DoorBenchModel", "asSort", "(IJ)J"⟩, prog_14_method_101_code, 3, some (.long), 12), 8122),
  ((⟨"DoorBenchModel", "element", "(II)J"⟩, prog_14_method_103_code, 3, some (.long), 12), 8126),
  ((⟨"DoorBenchModel", "shift", "(IIIII)I"⟩, prog_14_method_104_code, 7, some (.int), 12), 8131),
  ((⟨"DoorBenchModel", "taken", "(II)I"⟩, prog_14_method_105_code, 4, some (.int), 12), 8135),
  ((⟨"DoorBenchModel", "count", "(I)I"⟩, prog_14_method_106_code, 4, some (.int), 12), 8139)]
def z_mq : List ((MethodName × ByteArray × Nat × Option FieldType × Nat) × Nat) := z_mq0 ++ (z_mq1 ++ (z_mq2 ++ (z_mq3 ++ (z_mq4 ++ (z_mq5 ++ (z_mq6 ++ (z_mq7)))))))
abbrev z_nm : Nat := 293
def z_m (j : Nat) : MethodName × ByteArray × Nat × Option FieldType × Nat := match j with
  | 0 => (x, code, 4, (some .boolean : Option FieldType), 13)
  | k + 1 => ((z_mq[k]?).map (·.1)).getD (x, code, 4, (some .boolean : Option FieldType), 13)
def z_look (p : Nat) : Option Jvm.Cond := (z_tk[p / 1000]?).bind fun l => l[p % 1000]?
def z_cw (q : (MethodName × ByteArray × Nat × Option FieldType × Nat) × Nat) : Prop := z_look q.2 = some (.code q.1.1 q.1.2.1 q.1.2.2.1 q.1.2.2.2.1)
theorem z_cw0 : ∀ q ∈ z_mq0, z_cw q := List.forall_mem_cons.mpr ⟨rfl, List.forall_mem_cons.mpr ⟨rfl, List.forall_mem_cons.mpr ⟨rfl, List.forall_mem_cons.mpr ⟨rfl, List.forall_mem_cons.mpr ⟨rfl, List.forall_mem_cons.mpr ⟨rfl, List.forall_mem_cons.mpr ⟨rfl, List.forall_mem_cons.mpr ⟨rfl, List.forall_mem_cons.mpr ⟨rfl, List.forall_mem_cons.mpr ⟨rfl, List.forall_mem_cons.mpr ⟨rfl, List.forall_mem_cons.mpr ⟨rfl, List.forall_mem_cons.mpr ⟨rfl, List.forall_mem_cons.mpr ⟨rfl, List.forall_mem_cons.mpr ⟨rfl, List.forall_mem_cons.mpr ⟨rfl, List.forall_mem_cons.mpr ⟨rfl, List.forall_mem_cons.mpr ⟨rfl, List.forall_mem_cons.mpr ⟨rfl, List.forall_mem_cons.mpr ⟨rfl, List.forall_mem_cons.mpr ⟨rfl, List.forall_mem_cons.mpr ⟨rfl, List.forall_mem_cons.mpr ⟨rfl, List.forall_mem_cons.mpr ⟨rfl, List.forall_mem_cons.mpr ⟨rfl, List.forall_mem_cons.mpr ⟨rfl, List.forall_mem_cons.mpr ⟨rfl, List.forall_mem_cons.mpr ⟨rfl, List.forall_mem_cons.mpr ⟨rfl, List.forall_mem_cons.mpr ⟨rfl, List.forall_mem_cons.mpr ⟨rfl, List.forall_mem_cons.mpr ⟨rfl, List.forall_mem_cons.mpr ⟨rfl, List.forall_mem_cons.mpr ⟨rfl, List.forall_mem_cons.mpr ⟨rfl, List.forall_mem_cons.mpr ⟨rfl, List.forall_mem_cons.mpr ⟨rfl, List.forall_mem_cons.mpr ⟨rfl, List.forall_mem_cons.mpr ⟨rfl, List.forall_mem_cons.mpr ⟨rfl, fun _ h => absurd h List.not_mem_nil⟩⟩⟩⟩⟩⟩⟩⟩⟩⟩⟩⟩⟩⟩⟩⟩⟩⟩⟩⟩⟩⟩⟩⟩⟩⟩⟩⟩⟩⟩⟩⟩⟩⟩⟩⟩⟩⟩⟩⟩
theorem z_cw1 : ∀ q ∈ z_mq1, z_cw q := List.forall_mem_cons.mpr ⟨rfl, List.forall_mem_cons.mpr ⟨rfl, List.forall_mem_cons.mpr ⟨rfl, List.forall_mem_cons.mpr ⟨rfl, List.forall_mem_cons.mpr ⟨rfl, List.forall_mem_cons.mpr ⟨rfl, List.forall_mem_cons.mpr ⟨rfl, List.forall_mem_cons.mpr ⟨rfl, List.forall_mem_cons.mpr ⟨rfl, List.forall_mem_cons.mpr ⟨rfl, List.forall_mem_cons.mpr ⟨rfl, List.forall_mem_cons.mpr ⟨rfl, List.forall_mem_cons.mpr ⟨rfl, List.forall_mem_cons.mpr ⟨rfl, List.forall_mem_cons.mpr ⟨rfl, List.forall_mem_cons.mpr ⟨rfl, List.forall_mem_cons.mpr ⟨rfl, List.forall_mem_cons.mpr ⟨rfl, List.forall_mem_cons.mpr ⟨rfl, List.forall_mem_cons.mpr ⟨rfl, List.forall_mem_cons.mpr ⟨rfl, List.forall_mem_cons.mpr ⟨rfl, List.forall_mem_cons.mpr ⟨rfl, List.forall_mem_cons.mpr ⟨rfl, List.forall_mem_cons.mpr ⟨rfl, List.forall_mem_cons.mpr ⟨rfl, List.forall_mem_cons.mpr ⟨rfl, List.forall_mem_cons.mpr ⟨rfl, List.forall_mem_cons.mpr ⟨rfl, List.forall_mem_cons.mpr ⟨rfl, List.forall_mem_cons.mpr ⟨rfl, List.forall_mem_cons.mpr ⟨rfl, List.forall_mem_cons.mpr ⟨rfl, List.forall_mem_cons.mpr ⟨rfl, List.forall_mem_cons.mpr ⟨rfl, List.forall_mem_cons.mpr ⟨rfl, List.forall_mem_cons.mpr ⟨rfl, List.forall_mem_cons.mpr ⟨rfl, List.forall_mem_cons.mpr ⟨rfl, List.forall_mem_cons.mpr ⟨rfl, fun _ h => absurd h List.not_mem_nil⟩⟩⟩⟩⟩⟩⟩⟩⟩⟩⟩⟩⟩⟩⟩⟩⟩⟩⟩⟩⟩⟩⟩⟩⟩⟩⟩⟩⟩⟩⟩⟩⟩⟩⟩⟩⟩⟩⟩⟩
theorem z_cw2 : ∀ q ∈ z_mq2, z_cw q := List.forall_mem_cons.mpr ⟨rfl, List.forall_mem_cons.mpr ⟨rfl, List.forall_mem_cons.mpr ⟨rfl, List.forall_mem_cons.mpr ⟨rfl, List.forall_mem_cons.mpr ⟨rfl, List.forall_mem_cons.mpr ⟨rfl, List.forall_mem_cons.mpr ⟨rfl, List.forall_mem_cons.mpr ⟨rfl, List.forall_mem_cons.mpr ⟨rfl, List.forall_mem_cons.mpr ⟨rfl, List.forall_mem_cons.mpr ⟨rfl, List.forall_mem_cons.mpr ⟨rfl, List.forall_mem_cons.mpr ⟨rfl, List.forall_mem_cons.mpr ⟨rfl, List.forall_mem_cons.mpr ⟨rfl, List.forall_mem_cons.mpr ⟨rfl, List.forall_mem_cons.mpr ⟨rfl, List.forall_mem_cons.mpr ⟨rfl, List.forall_mem_cons.mpr ⟨rfl, List.forall_mem_cons.mpr ⟨rfl, List.forall_mem_cons.mpr ⟨rfl, List.forall_mem_cons.mpr ⟨rfl, List.forall_mem_cons.mpr ⟨rfl, List.forall_mem_cons.mpr ⟨rfl, List.forall_mem_cons.mpr ⟨rfl, List.forall_mem_cons.mpr ⟨rfl, List.forall_mem_cons.mpr ⟨rfl, List.forall_mem_cons.mpr ⟨rfl, List.forall_mem_cons.mpr ⟨rfl, List.forall_mem_cons.mpr ⟨rfl, List.forall_mem_cons.mpr ⟨rfl, List.forall_mem_cons.mpr ⟨rfl, List.forall_mem_cons.mpr ⟨rfl, List.forall_mem_cons.mpr ⟨rfl, List.forall_mem_cons.mpr ⟨rfl, List.forall_mem_cons.mpr ⟨rfl, List.forall_mem_cons.mpr ⟨rfl, List.forall_mem_cons.mpr ⟨rfl, List.forall_mem_cons.mpr ⟨rfl, List.forall_mem_cons.mpr ⟨rfl, fun _ h => absurd h List.not_mem_nil⟩⟩⟩⟩⟩⟩⟩⟩⟩⟩⟩⟩⟩⟩⟩⟩⟩⟩⟩⟩⟩⟩⟩⟩⟩⟩⟩⟩⟩⟩⟩⟩⟩⟩⟩⟩⟩⟩⟩⟩
theorem z_cw3 : ∀ q ∈ z_mq3, z_cw q := List.forall_mem_cons.mpr ⟨rfl, List.forall_mem_cons.mpr ⟨rfl, List.forall_mem_cons.mpr ⟨rfl, List.forall_mem_cons.mpr ⟨rfl, List.forall_mem_cons.mpr ⟨rfl, List.forall_mem_cons.mpr ⟨rfl, List.forall_mem_cons.mpr ⟨rfl, List.forall_mem_cons.mpr ⟨rfl, List.forall_mem_cons.mpr ⟨rfl, List.forall_mem_cons.mpr ⟨rfl, List.forall_mem_cons.mpr ⟨rfl, List.forall_mem_cons.mpr ⟨rfl, List.forall_mem_cons.mpr ⟨rfl, List.forall_mem_cons.mpr ⟨rfl, List.forall_mem_cons.mpr ⟨rfl, List.forall_mem_cons.mpr ⟨rfl, List.forall_mem_cons.mpr ⟨rfl, List.forall_mem_cons.mpr ⟨rfl, List.forall_mem_cons.mpr ⟨rfl, List.forall_mem_cons.mpr ⟨rfl, List.forall_mem_cons.mpr ⟨rfl, List.forall_mem_cons.mpr ⟨rfl, List.forall_mem_cons.mpr ⟨rfl, List.forall_mem_cons.mpr ⟨rfl, List.forall_mem_cons.mpr ⟨rfl, List.forall_mem_cons.mpr ⟨rfl, List.forall_mem_cons.mpr ⟨rfl, List.forall_mem_cons.mpr ⟨rfl, List.forall_mem_cons.mpr ⟨rfl, List.forall_mem_cons.mpr ⟨rfl, List.forall_mem_cons.mpr ⟨rfl, List.forall_mem_cons.mpr ⟨rfl, List.forall_mem_cons.mpr ⟨rfl, List.forall_mem_cons.mpr ⟨rfl, List.forall_mem_cons.mpr ⟨rfl, List.forall_mem_cons.mpr ⟨rfl, List.forall_mem_cons.mpr ⟨rfl, List.forall_mem_cons.mpr ⟨rfl, List.forall_mem_cons.mpr ⟨rfl, List.forall_mem_cons.mpr ⟨rfl, fun _ h => absurd h List.not_mem_nil⟩⟩⟩⟩⟩⟩⟩⟩⟩⟩⟩⟩⟩⟩⟩⟩⟩⟩⟩⟩⟩⟩⟩⟩⟩⟩⟩⟩⟩⟩⟩⟩⟩⟩⟩⟩⟩⟩⟩⟩
theorem z_cw4 : ∀ q ∈ z_mq4, z_cw q := List.forall_mem_cons.mpr ⟨rfl, List.forall_mem_cons.mpr ⟨rfl, List.forall_mem_cons.mpr ⟨rfl, List.forall_mem_cons.mpr ⟨rfl, List.forall_mem_cons.mpr ⟨rfl, List.forall_mem_cons.mpr ⟨rfl, List.forall_mem_cons.mpr ⟨rfl, List.forall_mem_cons.mpr ⟨rfl, List.forall_mem_cons.mpr ⟨rfl, List.forall_mem_cons.mpr ⟨rfl, List.forall_mem_cons.mpr ⟨rfl, List.forall_mem_cons.mpr ⟨rfl, List.forall_mem_cons.mpr ⟨rfl, List.forall_mem_cons.mpr ⟨rfl, List.forall_mem_cons.mpr ⟨rfl, List.forall_mem_cons.mpr ⟨rfl, List.forall_mem_cons.mpr ⟨rfl, List.forall_mem_cons.mpr ⟨rfl, List.forall_mem_cons.mpr ⟨rfl, List.forall_mem_cons.mpr ⟨rfl, List.forall_mem_cons.mpr ⟨rfl, List.forall_mem_cons.mpr ⟨rfl, List.forall_mem_cons.mpr ⟨rfl, List.forall_mem_cons.mpr ⟨rfl, List.forall_mem_cons.mpr ⟨rfl, List.forall_mem_cons.mpr ⟨rfl, List.forall_mem_cons.mpr ⟨rfl, List.forall_mem_cons.mpr ⟨rfl, List.forall_mem_cons.mpr ⟨rfl, List.forall_mem_cons.mpr ⟨rfl, List.forall_mem_cons.mpr ⟨rfl, List.forall_mem_cons.mpr ⟨rfl, List.forall_mem_cons.mpr ⟨rfl, List.forall_mem_cons.mpr ⟨rfl, List.forall_mem_cons.mpr ⟨rfl, List.forall_mem_cons.mpr ⟨rfl, List.forall_mem_cons.mpr ⟨rfl, List.forall_mem_cons.mpr ⟨rfl, List.forall_mem_cons.mpr ⟨rfl, List.forall_mem_cons.mpr ⟨rfl, fun _ h => absurd h List.not_mem_nil⟩⟩⟩⟩⟩⟩⟩⟩⟩⟩⟩⟩⟩⟩⟩⟩⟩⟩⟩⟩⟩⟩⟩⟩⟩⟩⟩⟩⟩⟩⟩⟩⟩⟩⟩⟩⟩⟩⟩⟩
theorem z_cw5 : ∀ q ∈ z_mq5, z_cw q := List.forall_mem_cons.mpr ⟨rfl, List.forall_mem_cons.mpr ⟨rfl, List.forall_mem_cons.mpr ⟨rfl, List.forall_mem_cons.mpr ⟨rfl, List.forall_mem_cons.mpr ⟨rfl, List.forall_mem_cons.mpr ⟨rfl, List.forall_mem_cons.mpr ⟨rfl, List.forall_mem_cons.mpr ⟨rfl, List.forall_mem_cons.mpr ⟨rfl, List.forall_mem_cons.mpr ⟨rfl, List.forall_mem_cons.mpr ⟨rfl, List.forall_mem_cons.mpr ⟨rfl, List.forall_mem_cons.mpr ⟨rfl, List.forall_mem_cons.mpr ⟨rfl, List.forall_mem_cons.mpr ⟨rfl, List.forall_mem_cons.mpr ⟨rfl, List.forall_mem_cons.mpr ⟨rfl, List.forall_mem_cons.mpr ⟨rfl, List.forall_mem_cons.mpr ⟨rfl, List.forall_mem_cons.mpr ⟨rfl, List.forall_mem_cons.mpr ⟨rfl, List.forall_mem_cons.mpr ⟨rfl, List.forall_mem_cons.mpr ⟨rfl, List.forall_mem_cons.mpr ⟨rfl, List.forall_mem_cons.mpr ⟨rfl, List.forall_mem_cons.mpr ⟨rfl, List.forall_mem_cons.mpr ⟨rfl, List.forall_mem_cons.mpr ⟨rfl, List.forall_mem_cons.mpr ⟨rfl, List.forall_mem_cons.mpr ⟨rfl, List.forall_mem_cons.mpr ⟨rfl, List.forall_mem_cons.mpr ⟨rfl, List.forall_mem_cons.mpr ⟨rfl, List.forall_mem_cons.mpr ⟨rfl, List.forall_mem_cons.mpr ⟨rfl, List.forall_mem_cons.mpr ⟨rfl, List.forall_mem_cons.mpr ⟨rfl, List.forall_mem_cons.mpr ⟨rfl, List.forall_mem_cons.mpr ⟨rfl, List.forall_mem_cons.mpr ⟨rfl, fun _ h => absurd h List.not_mem_nil⟩⟩⟩⟩⟩⟩⟩⟩⟩⟩⟩⟩⟩⟩⟩⟩⟩⟩⟩⟩⟩⟩⟩⟩⟩⟩⟩⟩⟩⟩⟩⟩⟩⟩⟩⟩⟩⟩⟩⟩
theorem z_cw6 : ∀ q ∈ z_mq6, z_cw q := List.forall_mem_cons.mpr ⟨rfl, List.forall_mem_cons.mpr ⟨rfl, List.forall_mem_cons.mpr ⟨rfl, List.forall_mem_cons.mpr ⟨rfl, List.forall_mem_cons.mpr ⟨rfl, List.forall_mem_cons.mpr ⟨rfl, List.forall_mem_cons.mpr ⟨rfl, List.forall_mem_cons.mpr ⟨rfl, List.forall_mem_cons.mpr ⟨rfl, List.forall_mem_cons.mpr ⟨rfl, List.forall_mem_cons.mpr ⟨rfl, List.forall_mem_cons.mpr ⟨rfl, List.forall_mem_cons.mpr ⟨rfl, List.forall_mem_cons.mpr ⟨rfl, List.forall_mem_cons.mpr ⟨rfl, List.forall_mem_cons.mpr ⟨rfl, List.forall_mem_cons.mpr ⟨rfl, List.forall_mem_cons.mpr ⟨rfl, List.forall_mem_cons.mpr ⟨rfl, List.forall_mem_cons.mpr ⟨rfl, List.forall_mem_cons.mpr ⟨rfl, List.forall_mem_cons.mpr ⟨rfl, List.forall_mem_cons.mpr ⟨rfl, List.forall_mem_cons.mpr ⟨rfl, List.forall_mem_cons.mpr ⟨rfl, List.forall_mem_cons.mpr ⟨rfl, List.forall_mem_cons.mpr ⟨rfl, List.forall_mem_cons.mpr ⟨rfl, List.forall_mem_cons.mpr ⟨rfl, List.forall_mem_cons.mpr ⟨rfl, List.forall_mem_cons.mpr ⟨rfl, List.forall_mem_cons.mpr ⟨rfl, List.forall_mem_cons.mpr ⟨rfl, List.forall_mem_cons.mpr ⟨rfl, List.forall_mem_cons.mpr ⟨rfl, List.forall_mem_cons.mpr ⟨rfl, List.forall_mem_cons.mpr ⟨rfl, List.forall_mem_cons.mpr ⟨rfl, List.forall_mem_cons.mpr ⟨rfl, List.forall_mem_cons.mpr ⟨rfl, fun _ h => absurd h List.not_mem_nil⟩⟩⟩⟩⟩⟩⟩⟩⟩⟩⟩⟩⟩⟩⟩⟩⟩⟩⟩⟩⟩⟩⟩⟩⟩⟩⟩⟩⟩⟩⟩⟩⟩⟩⟩⟩⟩⟩⟩⟩
theorem z_cw7 : ∀ q ∈ z_mq7, z_cw q := List.forall_mem_cons.mpr ⟨rfl, List.forall_mem_cons.mpr ⟨rfl, List.forall_mem_cons.mpr ⟨rfl, List.forall_mem_cons.mpr ⟨rfl, List.forall_mem_cons.mpr ⟨rfl, List.forall_mem_cons.mpr ⟨rfl, List.forall_mem_cons.mpr ⟨rfl, List.forall_mem_cons.mpr ⟨rfl, List.forall_mem_cons.mpr ⟨rfl, List.forall_mem_cons.mpr ⟨rfl, List.forall_mem_cons.mpr ⟨rfl, List.forall_mem_cons.mpr ⟨rfl, fun _ h => absurd h List.not_mem_nil⟩⟩⟩⟩⟩⟩⟩⟩⟩⟩⟩⟩
/-- fields in the pools: own class, index; the field's number, the classes that have it; reference, declarer, name, descriptor; where its words stand -/
def z_fl0 : List ((Nat × Nat) × (Nat × List Nat) × (String × String × String × String) × (Nat × Nat)) := [((1, 9), (0, [1]), ("DoorBench$Tape", "DoorBench$Tape", "bytes", "[I"), (1034, 0)),
  ((1, 25), (1, [1]), ("DoorBench$Tape", "DoorBench$Tape", "length", "I"), (1035, 0)),
  ((0, 55), (1, [1]), ("DoorBench$Tape", "DoorBench$Tape", "length", "I"), (1036, 0)),
  ((1, 29), (2, [1]), ("DoorBench$Tape", "DoorBench$Tape", "at", "I"), (1037, 0)),
  ((1, 32), (3, [1]), ("DoorBench$Tape", "DoorBench$Tape", "fault", "I"), (1038, 0)),
  ((1, 47), (4, [1]), ("DoorBench$Tape", "DoorBench$Tape", "questions", "I"), (1039, 0)),
  ((1, 44), (5, [1]), ("DoorBench$Tape", "DoorBench$Tape", "premises", "I"), (1040, 0)),
  ((1, 41), (6, [1]), ("DoorBench$Tape", "DoorBench$Tape", "ends", "I"), (1041, 0)),
  ((1, 38), (7, [1]), ("DoorBench$Tape", "DoorBench$Tape", "ties", "I"), (1042, 0)),
  ((1, 15), (8, [1]), ("DoorBench$Tape", "DoorBench$Tape", "numbers", "[I"), (1043, 0)),
  ((1, 18), (9, [1]), ("DoorBench$Tape", "DoorBench$Tape", "tieStarts", "[I"), (1044, 0)),
  ((1, 35), (10, [1]), ("DoorBench$Tape", "DoorBench$Tape", "block", "I"), (1045, 0)),
  ((1, 21), (11, [1]), ("DoorBench$Tape", "DoorBench$Tape", "reached", "[J"), (1046, 0)),
  ((0, 10), (0, [0]), ("DoorBench", "DoorBench", "tape", "LDoorBench$Tape;"), (1078, 0)),
  ((0, 18), (1, [0]), ("DoorBench", "DoorBench", "seated", "[LDoorBench$Bench;"), (1079, 0)),
  ((0, 22), (2, [0]), ("DoorBench", "DoorBench", "trials", "[LDoorBench$Bench;"), (1080, 0)),
  ((0, 59), (3, [0]), ("DoorBench", "DoorBench", "agendas", "I"), (1081, 0)),
  ((0, 27), (4, [0]), ("DoorBench", "DoorBench", "bodies", "[LDoorBench$Way;"), (1082, 0)),
  ((0, 188), (5, [0]), ("DoorBench", "DoorBench", "ways", "I"), (1083, 0)),
  ((0, 31), (6, [0]), ("DoorBench", "DoorBench", "ran", "[I"), (1084, 0)),
  ((0, 35), (7, [0]), ("DoorBench", "DoorBench", "sorts", "[I"), (1085, 0)),
  ((0, 38), (8, [0]), ("DoorBench", "DoorBench", "sizes", "[I"), (1086, 0)),
  ((0, 41), (9, [0]), ("DoorBench", "DoorBench", "elements", "[J"), (1087, 0)),
  ((0, 45), (10, [0]), ("DoorBench", "DoorBench", "kept", "[LDoorBench$Way;"), (1088, 0)),
  ((0, 48), (11, [0]), ("DoorBench", "DoorBench", "outcomes", "[I"), (1089, 0)),
  ((0, 267), (12, [0]), ("DoorBench", "DoorBench", "remembered", "[I"), (1090, 0)),
  ((2, 15), (0, [2]), ("DoorBench$Agenda", "DoorBench$Agenda", "questions", "I"), (1227, 0)),
  ((3, 63), (0, [2]), ("DoorBench$Agenda", "DoorBench$Agenda", "questions", "I"), (1228, 0)),
  ((0, 93), (0, [2]), ("DoorBench$Agenda", "DoorBench$Agenda", "questions", "I"), (1229, 0)),
  ((4, 85), (0, [2]), ("DoorBench$Agenda", "DoorBench$Agenda", "questions", "I"), (1230, 0)),
  ((2, 32), (1, [2]), ("DoorBench$Agenda", "DoorBench$Agenda", "all", "I"), (1231, 0)),
  ((3, 56), (1, [2]), ("DoorBench$Agenda", "DoorBench$Agenda", "all", "I"), (1232, 0)),
  ((4, 88), (1, [2]), ("DoorBench$Agenda", "DoorBench$Agenda", "all", "I"), (1233, 0)),
  ((0, 238), (1, [2]), ("DoorBench$Agenda", "DoorBench$Agenda", "all", "I"), (1234, 0)),
  ((2, 19), (2, [2]), ("DoorBench$Agenda", "DoorBench$Agenda", "premises", "I"), (1235, 0)),
  ((6, 13), (2, [2]), ("DoorBench$Agenda", "DoorBench$Agenda", "premises", "I"), (1236, 0)),
  ((0, 99), (2, [2]), ("DoorBench$Agenda", "DoorBench$Agenda", "premises", "I"), (1237, 0)),
  ((2, 22), (3, [2]), ("DoorBench$Agenda", "DoorBench$Agenda", "ends", "I"), (1238, 0)),
  ((7, 13), (3, [2]), ("DoorBench$Agenda", "DoorBench$Agenda", "ends", "I"), (1239, 0)),
  ((0, 102), (3, [2]), ("DoorBench$Agenda", "DoorBench$Agenda", "ends", "I"), (2000, 0)),
  ((2, 25), (4, [2]), ("DoorBench$Agenda", "DoorBench$Agenda", "ties", "I"), (2001, 0)),
  ((0, 96), (4, [2]), ("DoorBench$Agenda", "DoorBench$Agenda", "ties", "I"), (2002, 0)),
  ((2, 60), (5, [2]), ("DoorBench$Agenda", "DoorBench$Agenda", "sets", "[I"), (2003, 0)),
  ((10, 33), (5, [2]), ("DoorBench$Agenda", "DoorBench$Agenda", "sets", "[I"), (2004, 0)),
  ((0, 74), (5, [2]), ("DoorBench$Agenda", "DoorBench$Agenda", "sets", "[I"), (2005, 0)),
  ((4, 82), (5, [2]), ("DoorBench$Agenda", "DoorBench$Agenda", "sets", "[I"), (2006, 0)),
  ((3, 101), (5, [2]), ("DoorBench$Agenda", "DoorBench$Agenda", "sets", "[I"), (2007, 0)),
  ((2, 35), (6, [2]), ("DoorBench$Agenda", "DoorBench$Agenda", "blocks", "I"), (2008, 0)),
  ((2, 40), (7, [2]), ("DoorBench$Agenda", "DoorBench$Agenda", "whole", "J"), (2009, 0)),
  ((2, 28), (8, [2]), ("DoorBench$Agenda", "DoorBench$Agenda", "keeping", "[J"), (2010, 0)),
  ((2, 44), (9, [2]), ("DoorBench$Agenda", "DoorBench$Agenda", "lawfulBits", "[J"), (2011, 0)),
  ((3, 43), (10, [2]), ("DoorBench$Agenda", "DoorBench$Agenda", "spans", "I"), (2012, 0)),
  ((2, 63), (10, [2]), ("DoorBench$Agenda", "DoorBench$Agenda", "spans", "I"), (2013, 0)),
  ((2, 66), (11, [2]), ("DoorBench$Agenda", "DoorBench$Agenda", "yesOnes", "[J"), (2014, 0)),
  ((2, 47), (12, [2]), ("DoorBench$Agenda", "DoorBench$Agenda", "fewBits", "[J"), (2015, 0)),
  ((2, 9), (13, [2]), ("DoorBench$Agenda", "DoorBench$Agenda", "few", "[I"), (2016, 0)),
  ((3, 39), (0, [3]), ("DoorBench$Bench", "DoorBench$Bench", "agenda", "LDoorBench$Agenda;"), (2069, 0)),
  ((7, 7), (0, [3]), ("DoorBench$Bench", "DoorBench$Bench", "agenda", "LDoorBench$Agenda;"), (2070, 0)),
  ((8, 7), (0, [3]), ("DoorBench$Bench", "DoorBench$Bench", "agenda", "LDoorBench$Agenda;"), (2071, 0)),
  ((6, 7), (0, [3]), ("DoorBench$Bench", "DoorBench$Bench", "agenda", "LDoorBench$Agenda;"), (2072, 0))]
def z_fl1 : List ((Nat × Nat) × (Nat × List Nat) × (String × String × String × String) × (Nat × Nat)) := [((11, 28), (0, [3]), ("DoorBench$Bench", "DoorBench$Bench", "agenda", "LDoorBench$Agenda;"), (2073, 0)),
  ((10, 29), (0, [3]), ("DoorBench$Bench", "DoorBench$Bench", "agenda", "LDoorBench$Agenda;"), (2074, 0)),
  ((0, 89), (0, [3]), ("DoorBench$Bench", "DoorBench$Bench", "agenda", "LDoorBench$Agenda;"), (2075, 0)),
  ((4, 50), (0, [3]), ("DoorBench$Bench", "DoorBench$Bench", "agenda", "LDoorBench$Agenda;"), (2076, 0)),
  ((3, 9), (1, [3]), ("DoorBench$Bench", "DoorBench$Bench", "weights", "[I"), (2077, 0)),
  ((0, 163), (1, [3]), ("DoorBench$Bench", "DoorBench$Bench", "weights", "[I"), (2078, 0)),
  ((3, 15), (2, [3]), ("DoorBench$Bench", "DoorBench$Bench", "yes", "[I"), (2079, 0)),
  ((10, 19), (2, [3]), ("DoorBench$Bench", "DoorBench$Bench", "yes", "[I"), (2080, 0)),
  ((11, 21), (2, [3]), ("DoorBench$Bench", "DoorBench$Bench", "yes", "[I"), (2081, 0)),
  ((4, 71), (2, [3]), ("DoorBench$Bench", "DoorBench$Bench", "yes", "[I"), (2082, 0)),
  ((0, 166), (2, [3]), ("DoorBench$Bench", "DoorBench$Bench", "yes", "[I"), (2083, 0)),
  ((3, 18), (3, [3]), ("DoorBench$Bench", "DoorBench$Bench", "no", "[I"), (2084, 0)),
  ((11, 25), (3, [3]), ("DoorBench$Bench", "DoorBench$Bench", "no", "[I"), (2085, 0)),
  ((0, 169), (3, [3]), ("DoorBench$Bench", "DoorBench$Bench", "no", "[I"), (2086, 0)),
  ((3, 53), (4, [3]), ("DoorBench$Bench", "DoorBench$Bench", "judges", "I"), (2087, 0)),
  ((10, 23), (4, [3]), ("DoorBench$Bench", "DoorBench$Bench", "judges", "I"), (2088, 0)),
  ((11, 38), (4, [3]), ("DoorBench$Bench", "DoorBench$Bench", "judges", "I"), (2089, 0)),
  ((0, 105), (4, [3]), ("DoorBench$Bench", "DoorBench$Bench", "judges", "I"), (2090, 0)),
  ((4, 108), (4, [3]), ("DoorBench$Bench", "DoorBench$Bench", "judges", "I"), (2091, 0)),
  ((3, 21), (5, [3]), ("DoorBench$Bench", "DoorBench$Bench", "lean", "[I"), (2092, 0)),
  ((3, 24), (6, [3]), ("DoorBench$Bench", "DoorBench$Bench", "lowLean", "[I"), (2093, 0)),
  ((3, 27), (7, [3]), ("DoorBench$Bench", "DoorBench$Bench", "highLean", "[I"), (2094, 0)),
  ((3, 30), (8, [3]), ("DoorBench$Bench", "DoorBench$Bench", "order", "[I"), (2095, 0)),
  ((3, 49), (9, [3]), ("DoorBench$Bench", "DoorBench$Bench", "left", "[J"), (2096, 0)),
  ((3, 33), (10, [3]), ("DoorBench$Bench", "DoorBench$Bench", "numbers", "[I"), (2097, 0)),
  ((10, 26), (10, [3]), ("DoorBench$Bench", "DoorBench$Bench", "numbers", "[I"), (2098, 0)),
  ((11, 41), (10, [3]), ("DoorBench$Bench", "DoorBench$Bench", "numbers", "[I"), (2099, 0)),
  ((4, 115), (10, [3]), ("DoorBench$Bench", "DoorBench$Bench", "numbers", "[I"), (2100, 0)),
  ((3, 36), (11, [3]), ("DoorBench$Bench", "DoorBench$Bench", "before", "[I"), (2101, 0)),
  ((4, 9), (0, [4, 5, 6, 7, 8, 9, 10, 11]), ("DoorBench$Way", "DoorBench$Way", "kind", "I"), (3073, 0)),
  ((0, 225), (0, [4, 5, 6, 7, 8, 9, 10, 11]), ("DoorBench$Way", "DoorBench$Way", "kind", "I"), (3074, 0)),
  ((4, 22), (1, [4, 5, 6, 7, 8, 9, 10, 11]), ("DoorBench$Way", "DoorBench$Way", "shift", "I"), (3075, 0)),
  ((9, 7), (1, [4, 5, 6, 7, 8, 9, 10, 11]), ("DoorBench$Turns", "DoorBench$Way", "shift", "I"), (3076, 3077)),
  ((0, 228), (1, [4, 5, 6, 7, 8, 9, 10, 11]), ("DoorBench$Way", "DoorBench$Way", "shift", "I"), (3078, 0)),
  ((4, 25), (2, [4, 5, 6, 7, 8, 9, 10, 11]), ("DoorBench$Way", "DoorBench$Way", "judge", "I"), (3079, 0)),
  ((10, 7), (2, [4, 5, 6, 7, 8, 9, 10, 11]), ("DoorBench$Chair", "DoorBench$Way", "judge", "I"), (3080, 3081)),
  ((11, 9), (2, [4, 5, 6, 7, 8, 9, 10, 11]), ("DoorBench$Leader", "DoorBench$Way", "judge", "I"), (3082, 3083)),
  ((0, 231), (2, [4, 5, 6, 7, 8, 9, 10, 11]), ("DoorBench$Way", "DoorBench$Way", "judge", "I"), (3084, 0)),
  ((4, 15), (3, [4, 5, 6, 7, 8, 9, 10, 11]), ("DoorBench$Way", "DoorBench$Way", "number", "I"), (3085, 0)),
  ((4, 18), (4, [4, 5, 6, 7, 8, 9, 10, 11]), ("DoorBench$Way", "DoorBench$Way", "ran", "[I"), (3086, 0)),
  ((12, 9), (0, [12]), ("DoorBenchModel", "DoorBenchModel", "tape", "[I"), (6033, 0)),
  ((12, 120), (1, [12]), ("DoorBenchModel", "DoorBenchModel", "tapeMany", "I"), (6034, 0)),
  ((12, 13), (2, [12]), ("DoorBenchModel", "DoorBenchModel", "text", "[I"), (6035, 0)),
  ((12, 16), (3, [12]), ("DoorBenchModel", "DoorBenchModel", "textMany", "[I"), (6036, 0)),
  ((12, 19), (4, [12]), ("DoorBenchModel", "DoorBenchModel", "letter", "[I"), (6037, 0)),
  ((12, 22), (5, [12]), ("DoorBenchModel", "DoorBenchModel", "questions", "[I"), (6038, 0)),
  ((12, 25), (6, [12]), ("DoorBenchModel", "DoorBenchModel", "ties", "[I"), (6039, 0)),
  ((12, 28), (7, [12]), ("DoorBenchModel", "DoorBenchModel", "tieAt", "[I"), (6040, 0)),
  ((12, 31), (8, [12]), ("DoorBenchModel", "DoorBenchModel", "premises", "[I"), (6041, 0)),
  ((12, 34), (9, [12]), ("DoorBenchModel", "DoorBenchModel", "endsOf", "[I"), (6042, 0)),
  ((12, 37), (10, [12]), ("DoorBenchModel", "DoorBenchModel", "breaks", "[I"), (6043, 0)),
  ((12, 40), (11, [12]), ("DoorBenchModel", "DoorBenchModel", "lawfulSets", "[I"), (6044, 0)),
  ((12, 43), (12, [12]), ("DoorBenchModel", "DoorBenchModel", "lawfulMany", "[I"), (6045, 0)),
  ((12, 110), (13, [12]), ("DoorBenchModel", "DoorBenchModel", "agendas", "I"), (6046, 0)),
  ((12, 46), (14, [12]), ("DoorBenchModel", "DoorBenchModel", "weight", "[I"), (6047, 0)),
  ((12, 49), (15, [12]), ("DoorBenchModel", "DoorBenchModel", "yesOf", "[I"), (6048, 0)),
  ((12, 52), (16, [12]), ("DoorBenchModel", "DoorBenchModel", "noOf", "[I"), (6049, 0)),
  ((12, 55), (17, [12]), ("DoorBenchModel", "DoorBenchModel", "judges", "[I"), (6050, 0)),
  ((12, 58), (18, [12]), ("DoorBenchModel", "DoorBenchModel", "kind", "[I"), (6051, 0)),
  ((12, 61), (19, [12]), ("DoorBenchModel", "DoorBenchModel", "shift", "[I"), (6052, 0))]
def z_fl2 : List ((Nat × Nat) × (Nat × List Nat) × (String × String × String × String) × (Nat × Nat)) := [((12, 64), (20, [12]), ("DoorBenchModel", "DoorBenchModel", "chair", "[I"), (6053, 0)),
  ((12, 269), (21, [12]), ("DoorBenchModel", "DoorBenchModel", "ways", "I"), (6054, 0)),
  ((12, 133), (22, [12]), ("DoorBenchModel", "DoorBenchModel", "reads", "I"), (6055, 0)),
  ((12, 129), (23, [12]), ("DoorBenchModel", "DoorBenchModel", "isTape", "Z"), (6056, 0)),
  ((12, 123), (24, [12]), ("DoorBenchModel", "DoorBenchModel", "at", "I"), (6057, 0)),
  ((12, 126), (25, [12]), ("DoorBenchModel", "DoorBenchModel", "ends", "I"), (6058, 0)),
  ((12, 136), (26, [12]), ("DoorBenchModel", "DoorBenchModel", "fault", "I"), (6059, 0)),
  ((12, 160), (27, [12]), ("DoorBenchModel", "DoorBenchModel", "opened", "I"), (6060, 0)),
  ((12, 183), (28, [12]), ("DoorBenchModel", "DoorBenchModel", "set", "I"), (6061, 0)),
  ((12, 242), (29, [12]), ("DoorBenchModel", "DoorBenchModel", "bench", "I"), (6062, 0)),
  ((12, 245), (30, [12]), ("DoorBenchModel", "DoorBenchModel", "sits", "I"), (6063, 0)),
  ((12, 67), (31, [12]), ("DoorBenchModel", "DoorBenchModel", "sitsWeight", "[I"), (6064, 0)),
  ((12, 70), (32, [12]), ("DoorBenchModel", "DoorBenchModel", "sitsYes", "[I"), (6065, 0)),
  ((12, 73), (33, [12]), ("DoorBenchModel", "DoorBenchModel", "sitsNo", "[I"), (6066, 0)),
  ((12, 275), (34, [12]), ("DoorBenchModel", "DoorBenchModel", "yes", "I"), (6067, 0)),
  ((12, 278), (35, [12]), ("DoorBenchModel", "DoorBenchModel", "no", "I"), (6068, 0)),
  ((12, 76), (36, [12]), ("DoorBenchModel", "DoorBenchModel", "order", "[I"), (6069, 0)),
  ((12, 79), (37, [12]), ("DoorBenchModel", "DoorBenchModel", "numbers", "[I"), (6070, 0)),
  ((12, 82), (38, [12]), ("DoorBenchModel", "DoorBenchModel", "rowYes", "[I"), (6071, 0)),
  ((12, 85), (39, [12]), ("DoorBenchModel", "DoorBenchModel", "rowNo", "[I"), (6072, 0)),
  ((12, 88), (40, [12]), ("DoorBenchModel", "DoorBenchModel", "rowNumbers", "[I"), (6073, 0)),
  ((12, 339), (41, [12]), ("DoorBenchModel", "DoorBenchModel", "rowMany", "I"), (6074, 0)),
  ((12, 91), (42, [12]), ("DoorBenchModel", "DoorBenchModel", "mendSets", "[I"), (6075, 0)),
  ((12, 365), (43, [12]), ("DoorBenchModel", "DoorBenchModel", "mendMany", "I"), (6076, 0)),
  ((12, 371), (44, [12]), ("DoorBenchModel", "DoorBenchModel", "ordersMany", "I"), (6077, 0)),
  ((12, 374), (45, [12]), ("DoorBenchModel", "DoorBenchModel", "firstOrder", "I"), (6078, 0)),
  ((12, 94), (46, [12]), ("DoorBenchModel", "DoorBenchModel", "trace", "[I"), (6079, 0)),
  ((12, 381), (47, [12]), ("DoorBenchModel", "DoorBenchModel", "ran", "I"), (6080, 0)),
  ((12, 387), (48, [12]), ("DoorBenchModel", "DoorBenchModel", "acting", "I"), (6081, 0)),
  ((12, 97), (49, [12]), ("DoorBenchModel", "DoorBenchModel", "shelf", "[I"), (6082, 0)),
  ((12, 100), (50, [12]), ("DoorBenchModel", "DoorBenchModel", "many", "[I"), (6083, 0)),
  ((12, 103), (51, [12]), ("DoorBenchModel", "DoorBenchModel", "items", "[J"), (6084, 0)),
  ((12, 107), (52, [12]), ("DoorBenchModel", "DoorBenchModel", "carried", "[J"), (6085, 0))]
def z_fl : List ((Nat × Nat) × (Nat × List Nat) × (String × String × String × String) × (Nat × Nat)) := z_fl0 ++ (z_fl1 ++ (z_fl2))
/-- static fields: own class, index; the read-only cell; name, descriptor; the host of a nest mate ("": none); where its word stands -/
def z_gs : List ((Nat × Nat) × Nat × (String × String) × String × Nat) := [((1, 99), 2, ("YES_SETS", "[J"), "DoorBench", 1182), ((2, 97), 2, ("YES_SETS", "[J"), "DoorBench", 2160), ((0, 185), 3, ("KIND_ABOVE", "[I"), "", 3058), ((0, 340), 1, ("CHOOSE", "[I"), "", 4038), ((4, 28), 3, ("KIND_ABOVE", "[I"), "DoorBench", 6018)]
def z_nw : List ((Nat × Nat) × Nat × (Nat × Nat × Nat)) := [((13, 7), 0, (1020, 1021, 1001)), ((0, 7), 1, (1028, 1029, 1002)), ((0, 16), 3, (1074, 2064, 1009)), ((0, 25), 4, (1076, 3170, 1011)), ((1, 105), 2, (1198, 1199, 1005)), ((0, 195), 5, (3064, 3065, 1012)), ((0, 200), 6, (3098, 3099, 1013)), ((0, 203), 7, (3110, 3111, 1014)), ((0, 206), 8, (3122, 3123, 1015)), ((0, 209), 9, (3134, 3135, 1016)), ((0, 214), 10, (3146, 3147, 1017)), ((0, 217), 11, (3158, 3159, 1018)), ((13, 10), 12, (6027, 6028, 1003))]
def z_an : List ((Nat × Nat) × Nat × Nat) := [((0, 16), 2, 1074), ((0, 25), 3, 1076)]
def z_ld : List ((Nat × Nat) × Int32 × Nat) := [((15, 265), 1431655765, 2057), ((15, 266), 858993459, 2058), ((15, 267), 252645135, 2059), ((15, 264), 65536, 3046)]
def z_l2 : List ((Nat × Nat) × Int64 × Nat) := [((1, 84), (-1), 1169), ((2, 38), (-1), 1204), ((16, 314), 6148914691236517205, 1212), ((16, 316), 3689348814741910323, 1213), ((16, 318), 1085102592571150095, 1214), ((0, 322), (-9223372036854775808), 5230), ((12, 114), 4, 6197), ((12, 186), 97, 6221), ((12, 188), 106, 6222), ((12, 172), 49, 7019), ((12, 174), 57, 7020), ((12, 232), 9, 7091), ((12, 318), 5, 7107), ((12, 240), 2, 7116), ((12, 265), 7, 7149), ((12, 267), 8, 7150), ((12, 358), 3, 8027), ((12, 363), 31, 8056), ((12, 414), (-9223372036854775808), 8127), ((13, 151), 4294967295, 8140)]
def z_cS0 : List ((Nat × Nat) × (Nat × Nat × List (Nat × Nat)) × (MethodName × String × String) × List Nat) := [((1, 50), (0, 2, [(0, 7)]), (⟨"java/util/Arrays", "fill", "([II)V"⟩, "", ""), [1134, 1135, 1004]),
  ((1, 102), (0, 4, [(0, 20)]), (⟨"java/util/Arrays", "fill", "([JIIJ)V"⟩, "", ""), [1188, 1189, 1004]),
  ((14, 13), (0, 3, [(0, 21)]), (⟨"java/util/Arrays", "rangeCheck", "(III)V"⟩, "", ""), [1191, 1192, 1004]),
  ((2, 54), (0, 1, [(0, 25)]), (⟨"java/lang/Long", "bitCount", "(J)I"⟩, "", ""), [1209, 1210, 1007]),
  ((2, 86), (0, 1, [(0, 31)]), (⟨"java/lang/Integer", "bitCount", "(I)I"⟩, "", ""), [2054, 2055, 1008]),
  ((0, 148), (0, 1, [(0, 58)]), (⟨"DoorBench", "isShelf", "(I)Z"⟩, "", ""), [2227, 2228, 1001]),
  ((0, 155), (0, 1, [(0, 31)]), (⟨"java/lang/Integer", "bitCount", "(I)I"⟩, "", ""), [2234, 2055, 1008]),
  ((3, 66), (0, 2, [(0, 7)]), (⟨"java/util/Arrays", "fill", "([II)V"⟩, "", ""), [3003, 1135, 1004]),
  ((0, 172), (0, 1, [(0, 64)]), (⟨"DoorBench", "isEither", "(I)Z"⟩, "", ""), [3012, 3013, 1001]),
  ((3, 72), (0, 1, [(0, 31)]), (⟨"java/lang/Integer", "bitCount", "(I)I"⟩, "", ""), [3027, 2055, 1008]),
  ((3, 78), (11, 2, []), (⟨"java/lang/Math", "min", "(II)I"⟩, "", ""), [3040, 3041, 1010, 3042]),
  ((3, 84), (0, 1, [(0, 71)]), (⟨"java/lang/Integer", "numberOfTrailingZeros", "(I)I"⟩, "", ""), [3043, 3044, 1008]),
  ((3, 87), (10, 2, []), (⟨"java/lang/Math", "max", "(II)I"⟩, "", ""), [3047, 3048, 1010, 3049]),
  ((7, 19), (0, 1, [(0, 94)]), (⟨"DoorBench$Agenda", "both", "(I)I"⟩, "", ""), [3226, 3227, 1005]),
  ((8, 17), (10, 2, []), (⟨"java/lang/Math", "max", "(II)I"⟩, "", ""), [4013, 3048, 1010, 3049]),
  ((6, 19), (0, 1, [(0, 94)]), (⟨"DoorBench$Agenda", "both", "(I)I"⟩, "", ""), [4018, 3227, 1005]),
  ((3, 136), (5, 2, [(0, 105)]), (⟨"DoorBench", "choose", "(II)I"⟩, "", "DoorBench"), [4036, 1001]),
  ((4, 77), (0, 1, [(0, 31)]), (⟨"java/lang/Integer", "bitCount", "(I)I"⟩, "", ""), [4130, 2055, 1008]),
  ((4, 95), (0, 2, [(0, 7)]), (⟨"java/util/Arrays", "fill", "([II)V"⟩, "", ""), [4148, 1135, 1004]),
  ((4, 125), (5, 2, [(0, 105)]), (⟨"DoorBench", "choose", "(II)I"⟩, "", "DoorBench"), [4036, 1001]),
  ((2, 116), (0, 1, [(0, 150)]), (⟨"java/lang/Long", "numberOfTrailingZeros", "(J)I"⟩, "", ""), [5044, 5045, 1007]),
  ((16, 311), (0, 1, [(0, 71)]), (⟨"java/lang/Integer", "numberOfTrailingZeros", "(I)I"⟩, "", ""), [5047, 3044, 1008]),
  ((0, 307), (0, 4, [(0, 20)]), (⟨"java/util/Arrays", "fill", "([JIIJ)V"⟩, "", ""), [5214, 1189, 1004]),
  ((0, 316), (0, 2, [(0, 179)]), (⟨"DoorBench", "lowestBits", "(IJ)J"⟩, "", ""), [5223, 5224, 1001]),
  ((0, 328), (8, 5, []), (⟨"java/lang/System", "arraycopy", "(Ljava/lang/Object;ILjava/lang/Object;II)V"⟩, "", ""), [5239, 6001, 6000, 1019]),
  ((12, 116), (0, 3, [(0, 189)]), (⟨"DoorBenchModel", "within", "(JJJ)Z"⟩, "", ""), [6198, 6199, 1003]),
  ((12, 193), (0, 1, [(0, 207)]), (⟨"DoorBenchModel", "countOf", "(I)I"⟩, "", ""), [7033, 7034, 1003]),
  ((12, 216), (0, 3, [(0, 216)]), (⟨"DoorBenchModel", "hasThese", "(III)Z"⟩, "", ""), [7068, 7069, 1003]),
  ((12, 237), (0, 1, [(0, 225)]), (⟨"DoorBenchModel", "isShelf", "(I)Z"⟩, "", ""), [7104, 7105, 1003]),
  ((12, 390), (0, 1, [(0, 279)]), (⟨"DoorBenchModel", "above", "(I)I"⟩, "", ""), [8085, 8086, 1003]),
  ((12, 408), (0, 2, [(0, 288)]), (⟨"DoorBenchModel", "asSort", "(IJ)J"⟩, "", ""), [8120, 8121, 1003])]
def z_cS : List ((Nat × Nat) × (Nat × Nat × List (Nat × Nat)) × (MethodName × String × String) × List Nat) := z_cS0
def z_cV0 : List ((Nat × Nat) × (Nat × Nat × List (Nat × Nat)) × (MethodName × String × String) × List Nat) := [((13, 13), (1, 2, [(0, 3)]), (⟨"DoorBench", "feed", "(II)I"⟩, "", ""), [1118, 1119, 1120, 1001]),
  ((0, 51), (1, 2, [(1, 4)]), (⟨"DoorBench$Tape", "take", "(II)Z"⟩, "", ""), [1122, 1123, 1124, 1002]),
  ((13, 18), (1, 0, [(0, 5)]), (⟨"DoorBench", "agenda", "()I"⟩, "", ""), [1126, 1127, 1128, 1001]),
  ((0, 62), (1, 0, [(1, 6)]), (⟨"DoorBench$Tape", "findFault", "()I"⟩, "", ""), [1130, 1131, 1132, 1002]),
  ((1, 56), (1, 1, [(1, 8)]), (⟨"DoorBench$Tape", "expect", "(I)V"⟩, "", ""), [1137, 1139, 0, 1002]),
  ((1, 60), (1, 0, [(1, 9)]), (⟨"DoorBench$Tape", "nameQuestions", "()V"⟩, "", ""), [1141, 1143, 1, 1002]),
  ((1, 66), (1, 0, [(1, 10)]), (⟨"DoorBench$Tape", "fail", "()V"⟩, "", ""), [1145, 1147, 2, 1002]),
  ((1, 63), (1, 0, [(1, 11)]), (⟨"DoorBench$Tape", "anotherPart", "()V"⟩, "", ""), [1149, 1151, 3, 1002]),
  ((1, 69), (1, 1, [(1, 12)]), (⟨"DoorBench$Tape", "passes", "(I)Z"⟩, "", ""), [1153, 1155, 4, 1002]),
  ((1, 73), (1, 0, [(1, 13)]), (⟨"DoorBench$Tape", "someQuestions", "()I"⟩, "", ""), [1157, 1159, 5, 1002]),
  ((1, 81), (1, 0, [(1, 14)]), (⟨"DoorBench$Tape", "questionHere", "()I"⟩, "", ""), [1161, 1163, 6, 1002]),
  ((1, 77), (1, 1, [(1, 15)]), (⟨"DoorBench$Tape", "tie", "(I)J"⟩, "", ""), [1165, 1167, 7, 1002]),
  ((1, 86), (1, 1, [(1, 16)]), (⟨"DoorBench$Tape", "either", "(I)J"⟩, "", ""), [1170, 1172, 8, 1002]),
  ((1, 89), (1, 1, [(1, 17)]), (⟨"DoorBench$Tape", "simple", "(I)J"⟩, "", ""), [1174, 1176, 9, 1002]),
  ((1, 92), (1, 1, [(1, 18)]), (⟨"DoorBench$Tape", "yesSets", "(I)J"⟩, "", ""), [1178, 1180, 10, 1002]),
  ((1, 95), (1, 2, [(1, 19)]), (⟨"DoorBench$Tape", "atLeast", "(II)J"⟩, "", ""), [1184, 1186, 11, 1002]),
  ((0, 66), (1, 0, [(1, 22)]), (⟨"DoorBench$Tape", "told", "()LDoorBench$Agenda;"⟩, "", ""), [1194, 1195, 1196, 1002]),
  ((2, 50), (1, 2, [(2, 24)]), (⟨"DoorBench$Agenda", "keptWithout", "(II)J"⟩, "", ""), [1205, 1207, 12, 1005]),
  ((2, 69), (1, 0, [(2, 26)]), (⟨"DoorBench$Agenda", "listSets", "()V"⟩, "", ""), [1215, 1217, 13, 1005]),
  ((2, 72), (1, 1, [(2, 27)]), (⟨"DoorBench$Agenda", "isLawful", "(I)Z"⟩, "", ""), [1219, 1220, 1221, 1005]),
  ((2, 76), (1, 1, [(2, 28)]), (⟨"DoorBench$Agenda", "hasSet", "(I)Z"⟩, "", ""), [1223, 1224, 1225, 1005]),
  ((0, 70), (1, 1, [(0, 29)]), (⟨"DoorBench", "found", "(LDoorBench$Agenda;)I"⟩, "", ""), [2046, 2048, 14, 1001]),
  ((0, 79), (1, 0, [(2, 30)]), (⟨"DoorBench$Agenda", "impossibleTies", "()I"⟩, "", ""), [2050, 2051, 2052, 1005]),
  ((2, 100), (1, 1, [(2, 32)]), (⟨"DoorBench$Agenda", "noneKeeps", "(I)Z"⟩, "", ""), [2060, 2062, 15, 1005]),
  ((13, 23), (1, 2, [(0, 34)]), (⟨"DoorBench", "of", "(II)I"⟩, "", ""), [2127, 2128, 2129, 1001]),
  ((0, 85), (1, 1, [(0, 35)]), (⟨"DoorBench", "benchOf", "(I)LDoorBench$Bench;"⟩, "", ""), [2131, 2133, 16, 1001]),
  ((13, 27), (1, 2, [(0, 36)]), (⟨"DoorBench", "lawful", "(II)I"⟩, "", ""), [2135, 2136, 2137, 1001]),
  ((0, 108), (1, 1, [(0, 37)]), (⟨"DoorBench", "agendaOf", "(I)LDoorBench$Agenda;"⟩, "", ""), [2139, 2141, 17, 1001]),
  ((13, 31), (1, 2, [(0, 38)]), (⟨"DoorBench", "broken", "(II)I"⟩, "", ""), [2143, 2144, 2145, 1001]),
  ((0, 112), (1, 1, [(2, 28)]), (⟨"DoorBench$Agenda", "hasSet", "(I)Z"⟩, "", ""), [2147, 1224, 1225, 1005]),
  ((0, 116), (1, 1, [(2, 39)]), (⟨"DoorBench$Agenda", "answersOf", "(I)I"⟩, "", ""), [2148, 2149, 2150, 1005]),
  ((0, 120), (1, 1, [(2, 40)]), (⟨"DoorBench$Agenda", "tiesBrokenBy", "(I)I"⟩, "", ""), [2152, 2153, 2154, 1005]),
  ((2, 94), (1, 2, [(2, 41)]), (⟨"DoorBench$Agenda", "setsHaving", "(II)J"⟩, "", ""), [2156, 2158, 18, 1005]),
  ((13, 35), (1, 3, [(0, 42)]), (⟨"DoorBench", "stands", "(III)I"⟩, "", ""), [2161, 2162, 2163, 1001]),
  ((0, 123), (1, 2, [(2, 43)]), (⟨"DoorBench$Agenda", "canBeTold", "(II)Z"⟩, "", ""), [2165, 2166, 2167, 1005]),
  ((0, 126), (1, 1, [(2, 44)]), (⟨"DoorBench$Agenda", "canStand", "(I)Z"⟩, "", ""), [2169, 2170, 2171, 1005]),
  ((2, 83), (1, 2, [(2, 45)]), (⟨"DoorBench$Agenda", "having", "(II)J"⟩, "", ""), [2173, 2175, 19, 1005]),
  ((2, 79), (1, 1, [(2, 46)]), (⟨"DoorBench$Agenda", "wholeSpan", "(I)J"⟩, "", ""), [2177, 2178, 2179, 1005]),
  ((13, 40), (1, 4, [(0, 47)]), (⟨"DoorBench", "forced", "(IIII)I"⟩, "", ""), [2181, 2182, 2183, 1001]),
  ((0, 129), (1, 1, [(2, 48)]), (⟨"DoorBench$Agenda", "hasQuestion", "(I)Z"⟩, "", ""), [2185, 2186, 2187, 1005]),
  ((0, 132), (1, 1, [(2, 49)]), (⟨"DoorBench$Agenda", "implied", "(I)I"⟩, "", ""), [2189, 2190, 2191, 1005]),
  ((13, 45), (1, 3, [(0, 50)]), (⟨"DoorBench", "why", "(III)I"⟩, "", ""), [2193, 2194, 2195, 1001]),
  ((0, 135), (1, 1, [(2, 51)]), (⟨"DoorBench$Agenda", "smallestFallen", "(I)I"⟩, "", ""), [2197, 2198, 2199, 1005]),
  ((2, 91), (1, 1, [(2, 44)]), (⟨"DoorBench$Agenda", "canStand", "(I)Z"⟩, "", ""), [2201, 2170, 2171, 1005]),
  ((13, 49), (1, 4, [(0, 52)]), (⟨"DoorBench", "judge", "(IIII)I"⟩, "", ""), [2202, 2203, 2204, 1001]),
  ((0, 138), (1, 3, [(3, 53)]), (⟨"DoorBench$Bench", "seat", "(III)V"⟩, "", ""), [2206, 2207, 2208, 1009]),
  ((3, 59), (1, 3, [(3, 54)]), (⟨"DoorBench$Bench", "alter", "(III)V"⟩, "", ""), [2210, 2211, 2212, 1009]),
  ((13, 53), (1, 4, [(0, 55)]), (⟨"DoorBench", "change", "(IIII)I"⟩, "", ""), [2214, 2215, 2216, 1001]),
  ((0, 142), (1, 1, [(3, 56)]), (⟨"DoorBench$Bench", "hasJudge", "(I)Z"⟩, "", ""), [2218, 2219, 2220, 1009]),
  ((0, 145), (1, 3, [(3, 54)]), (⟨"DoorBench$Bench", "alter", "(III)V"⟩, "", ""), [2222, 2211, 2212, 1009]),
  ((13, 57), (1, 4, [(0, 57)]), (⟨"DoorBench", "read", "(IIII)I"⟩, "", ""), [2223, 2224, 2225, 1001]),
  ((0, 151), (1, 3, [(0, 59)]), (⟨"DoorBench", "answersFrom", "(III)I"⟩, "", ""), [2230, 2232, 20, 1001]),
  ((13, 61), (1, 1, [(0, 60)]), (⟨"DoorBench", "clear", "(I)I"⟩, "", ""), [2235, 2236, 2237, 1001]),
  ((0, 160), (1, 0, [(3, 61)]), (⟨"DoorBench$Bench", "dismiss", "()V"⟩, "", ""), [2239, 3000, 3001, 1009]),
  ((13, 66), (1, 3, [(0, 62)]), (⟨"DoorBench", "ofJudge", "(III)I"⟩, "", ""), [3004, 3005, 3006, 1001]),
  ((13, 70), (1, 3, [(0, 63)]), (⟨"DoorBench", "votes", "(III)I"⟩, "", ""), [3008, 3009, 3010, 1001]),
  ((0, 175), (1, 2, [(3, 65)]), (⟨"DoorBench$Bench", "weightOn", "(I[I)I"⟩, "", ""), [3015, 3016, 3017, 1009]),
  ((13, 74), (1, 2, [(0, 66)]), (⟨"DoorBench", "far", "(II)I"⟩, "", ""), [3019, 3020, 3021, 1001]),
  ((0, 179), (1, 1, [(3, 67)]), (⟨"DoorBench$Bench", "distance", "(I)I"⟩, "", ""), [3023, 3024, 3025, 1009]),
  ((13, 78), (1, 2, [(0, 68)]), (⟨"DoorBench", "nearest", "(II)I"⟩, "", ""), [3028, 3029, 3030, 1001])]
def z_cV1 : List ((Nat × Nat) × (Nat × Nat × List (Nat × Nat)) × (MethodName × String × String) × List Nat) := [((0, 182), (1, 1, [(3, 69)]), (⟨"DoorBench$Bench", "nearestAt", "(I)I"⟩, "", ""), [3032, 3033, 3034, 1009]),
  ((3, 98), (1, 0, [(3, 70)]), (⟨"DoorBench$Bench", "sumLeans", "()V"⟩, "", ""), [3036, 3038, 21, 1009]),
  ((3, 104), (1, 1, [(3, 72)]), (⟨"DoorBench$Bench", "leanOf", "(I)I"⟩, "", ""), [3050, 3052, 22, 1009]),
  ((13, 82), (1, 3, [(0, 73)]), (⟨"DoorBench", "way", "(III)I"⟩, "", ""), [3054, 3055, 3056, 1001]),
  ((0, 191), (1, 3, [(0, 74)]), (⟨"DoorBench", "bodyOf", "(III)LDoorBench$Way;"⟩, "", ""), [3060, 3062, 23, 1001]),
  ((13, 86), (1, 2, [(0, 83)]), (⟨"DoorBench", "ofWay", "(II)I"⟩, "", ""), [3178, 3179, 3180, 1001]),
  ((0, 221), (1, 1, [(0, 84)]), (⟨"DoorBench", "bodyAt", "(I)LDoorBench$Way;"⟩, "", ""), [3182, 3184, 24, 1001]),
  ((13, 90), (1, 3, [(0, 85)]), (⟨"DoorBench", "outcome", "(III)I"⟩, "", ""), [3186, 3187, 3188, 1001]),
  ((0, 234), (2, 1, [(4, 101), (10, 86), (7, 93), (5, 97), (11, 98), (8, 99), (6, 100), (9, 86)]), (⟨"DoorBench$Way", "decide", "(LDoorBench$Bench;)I"⟩, "DoorBench$Way", ""), [3190, 3193, 3191, 3192, 3191, 1011, 3194, 3195, 1016, 3223, 3224, 1014, 4000, 4001, 1012, 4004, 4005, 1018, 4009, 4010, 1015, 4015, 4016, 1013, 4021, 3195, 1016]),
  ((9, 13), (1, 1, [(3, 87)]), (⟨"DoorBench$Bench", "orderFrom", "(I)V"⟩, "", ""), [3197, 3198, 3199, 1009]),
  ((9, 19), (2, 1, [(9, 89), (10, 88)]), (⟨"DoorBench$Turns", "openYes", "(LDoorBench$Bench;)I"⟩, "DoorBench$Turns", ""), [3201, 3204, 3202, 3203, 3202, 1016, 3205, 3206, 1017]),
  ((10, 13), (1, 1, [(3, 56)]), (⟨"DoorBench$Bench", "hasJudge", "(I)Z"⟩, "", ""), [3208, 2219, 2220, 1009]),
  ((9, 23), (1, 1, [(3, 90)]), (⟨"DoorBench$Bench", "inTurns", "(I)I"⟩, "", ""), [3210, 3211, 3212, 1009]),
  ((3, 107), (1, 1, [(2, 46)]), (⟨"DoorBench$Agenda", "wholeSpan", "(I)J"⟩, "", ""), [3214, 2178, 2179, 1005]),
  ((3, 111), (1, 2, [(3, 91)]), (⟨"DoorBench$Bench", "isYesInTurn", "(IZ)Z"⟩, "", ""), [3215, 3217, 25, 1009]),
  ((3, 115), (1, 3, [(2, 92)]), (⟨"DoorBench$Agenda", "answering", "(IZI)J"⟩, "", ""), [3219, 3220, 3221, 1005]),
  ((7, 23), (1, 0, [(3, 95)]), (⟨"DoorBench$Bench", "byHeads", "()I"⟩, "", ""), [3229, 3230, 3231, 1009]),
  ((7, 27), (1, 1, [(3, 96)]), (⟨"DoorBench$Bench", "nearestWith", "(I)I"⟩, "", ""), [3233, 3234, 3235, 1009]),
  ((3, 90), (1, 0, [(3, 95)]), (⟨"DoorBench$Bench", "byHeads", "()I"⟩, "", ""), [3237, 3230, 3231, 1009]),
  ((3, 94), (1, 1, [(2, 27)]), (⟨"DoorBench$Agenda", "isLawful", "(I)Z"⟩, "", ""), [3238, 1220, 1221, 1005]),
  ((7, 30), (1, 1, [(2, 39)]), (⟨"DoorBench$Agenda", "answersOf", "(I)I"⟩, "", ""), [3239, 2149, 2150, 1005]),
  ((5, 7), (1, 0, [(3, 95)]), (⟨"DoorBench$Bench", "byHeads", "()I"⟩, "", ""), [4003, 3230, 3231, 1009]),
  ((11, 15), (1, 1, [(3, 56)]), (⟨"DoorBench$Bench", "hasJudge", "(I)Z"⟩, "", ""), [4007, 2219, 2220, 1009]),
  ((11, 32), (1, 1, [(2, 49)]), (⟨"DoorBench$Agenda", "implied", "(I)I"⟩, "", ""), [4008, 2190, 2191, 1005]),
  ((8, 13), (1, 1, [(3, 96)]), (⟨"DoorBench$Bench", "nearestWith", "(I)I"⟩, "", ""), [4012, 3234, 3235, 1009]),
  ((8, 23), (1, 1, [(2, 39)]), (⟨"DoorBench$Agenda", "answersOf", "(I)I"⟩, "", ""), [4014, 2149, 2150, 1005]),
  ((6, 23), (1, 0, [(3, 95)]), (⟨"DoorBench$Bench", "byHeads", "()I"⟩, "", ""), [4019, 3230, 3231, 1009]),
  ((6, 27), (1, 1, [(2, 49)]), (⟨"DoorBench$Agenda", "implied", "(I)I"⟩, "", ""), [4020, 2190, 2191, 1005]),
  ((13, 94), (1, 2, [(0, 102)]), (⟨"DoorBench", "benches", "(II)I"⟩, "", ""), [4023, 4024, 4025, 1001]),
  ((0, 241), (1, 2, [(0, 103)]), (⟨"DoorBench", "refusalOfAll", "(II)I"⟩, "", ""), [4027, 4029, 26, 1001]),
  ((0, 245), (1, 1, [(3, 104)]), (⟨"DoorBench$Bench", "manyOf", "(I)I"⟩, "", ""), [4031, 4032, 4033, 1009]),
  ((13, 98), (1, 4, [(0, 106)]), (⟨"DoorBench", "unlawful", "(IIII)I"⟩, "", ""), [4040, 4041, 4042, 1001]),
  ((0, 248), (2, 3, [(4, 107), (10, 107), (7, 107), (5, 107), (11, 107), (8, 107), (6, 107), (9, 107)]), (⟨"DoorBench$Way", "unlawfulOnes", "(LDoorBench$Bench;IZ)I"⟩, "DoorBench$Way", ""), [4044, 4047, 4045, 4046, 4045, 1011, 4048, 4045, 1011, 4049, 4045, 1011, 4050, 4045, 1011, 4051, 4045, 1011, 4052, 4045, 1011, 4053, 4045, 1011, 4054, 4045, 1011]),
  ((4, 45), (1, 1, [(3, 108)]), (⟨"DoorBench$Bench", "sitFirst", "(I)I"⟩, "", ""), [4056, 4057, 4058, 1009]),
  ((3, 139), (1, 0, [(3, 61)]), (⟨"DoorBench$Bench", "dismiss", "()V"⟩, "", ""), [4060, 3000, 3001, 1009]),
  ((3, 142), (1, 3, [(3, 53)]), (⟨"DoorBench$Bench", "seat", "(III)V"⟩, "", ""), [4061, 2207, 2208, 1009]),
  ((3, 145), (1, 1, [(3, 104)]), (⟨"DoorBench$Bench", "manyOf", "(I)I"⟩, "", ""), [4062, 4032, 4033, 1009]),
  ((4, 54), (2, 1, [(4, 101), (10, 86), (7, 93), (5, 97), (11, 98), (8, 99), (6, 100), (9, 86)]), (⟨"DoorBench$Way", "decide", "(LDoorBench$Bench;)I"⟩, "DoorBench$Way", ""), [4063, 3193, 3191, 3192, 3191, 1011, 3194, 3195, 1016, 3223, 3224, 1014, 4000, 4001, 1012, 4004, 4005, 1018, 4009, 4010, 1015, 4015, 4016, 1013, 4021, 3195, 1016]),
  ((4, 58), (1, 1, [(2, 44)]), (⟨"DoorBench$Agenda", "canStand", "(I)Z"⟩, "", ""), [4064, 2170, 2171, 1005]),
  ((4, 64), (1, 0, [(3, 109)]), (⟨"DoorBench$Bench", "toldNumbers", "()I"⟩, "", ""), [4065, 4066, 4067, 1009]),
  ((4, 68), (1, 0, [(3, 110)]), (⟨"DoorBench$Bench", "sitNext", "()V"⟩, "", ""), [4069, 4070, 4071, 1009]),
  ((3, 148), (1, 0, [(3, 111)]), (⟨"DoorBench$Bench", "settle", "()V"⟩, "", ""), [4073, 4074, 4075, 1009]),
  ((13, 102), (1, 5, [(0, 112)]), (⟨"DoorBench", "unlike", "(IIIII)I"⟩, "", ""), [4077, 4078, 4079, 1001]),
  ((0, 252), (2, 4, [(4, 113), (10, 113), (7, 113), (5, 113), (11, 113), (8, 113), (6, 113), (9, 113)]), (⟨"DoorBench$Way", "unlikeOnes", "(LDoorBench$Way;LDoorBench$Bench;IZ)I"⟩, "DoorBench$Way", ""), [4081, 4084, 4082, 4083, 4082, 1011, 4085, 4082, 1011, 4086, 4082, 1011, 4087, 4082, 1011, 4088, 4082, 1011, 4089, 4082, 1011, 4090, 4082, 1011, 4091, 4082, 1011]),
  ((13, 107), (1, 4, [(0, 114)]), (⟨"DoorBench", "sway", "(IIII)I"⟩, "", ""), [4093, 4094, 4095, 1001]),
  ((0, 256), (2, 3, [(4, 115), (10, 115), (7, 115), (5, 115), (11, 115), (8, 115), (6, 115), (9, 115)]), (⟨"DoorBench$Way", "yesOnes", "(LDoorBench$Bench;II)I"⟩, "DoorBench$Way", ""), [4097, 4100, 4098, 4099, 4098, 1011, 4101, 4098, 1011, 4102, 4098, 1011, 4103, 4098, 1011, 4104, 4098, 1011, 4105, 4098, 1011, 4106, 4098, 1011, 4107, 4098, 1011]),
  ((13, 111), (1, 3, [(0, 116)]), (⟨"DoorBench", "twist", "(III)I"⟩, "", ""), [4109, 4110, 4111, 1001]),
  ((0, 260), (1, 1, [(3, 117)]), (⟨"DoorBench$Bench", "isSilent", "(I)Z"⟩, "", ""), [4113, 4114, 4115, 1009]),
  ((0, 263), (2, 2, [(4, 118), (10, 118), (7, 118), (5, 118), (11, 118), (8, 118), (6, 118), (9, 118)]), (⟨"DoorBench$Way", "bestTwist", "(LDoorBench$Bench;I)I"⟩, "DoorBench$Way", ""), [4117, 4120, 4118, 4119, 4118, 1011, 4121, 4118, 1011, 4122, 4118, 1011, 4123, 4118, 1011, 4124, 4118, 1011, 4125, 4118, 1011, 4126, 4118, 1011, 4127, 4118, 1011]),
  ((4, 74), (1, 1, [(2, 39)]), (⟨"DoorBench$Agenda", "answersOf", "(I)I"⟩, "", ""), [4129, 2149, 2150, 1005]),
  ((4, 91), (1, 3, [(3, 54)]), (⟨"DoorBench$Bench", "alter", "(III)V"⟩, "", ""), [4131, 2211, 2212, 1009]),
  ((13, 115), (1, 3, [(0, 119)]), (⟨"DoorBench", "twisted", "(III)I"⟩, "", ""), [4132, 4133, 4134, 1001]),
  ((0, 270), (2, 3, [(4, 120), (10, 120), (7, 120), (5, 120), (11, 120), (8, 120), (6, 120), (9, 120)]), (⟨"DoorBench$Way", "twistedOnes", "(LDoorBench$Bench;I[I)I"⟩, "DoorBench$Way", ""), [4136, 4139, 4137, 4138, 4137, 1011, 4140, 4137, 1011, 4141, 4137, 1011, 4142, 4137, 1011, 4143, 4137, 1011, 4144, 4137, 1011, 4145, 4137, 1011, 4146, 4137, 1011]),
  ((4, 101), (1, 0, [(3, 121)]), (⟨"DoorBench$Bench", "rank", "()I"⟩, "", ""), [4149, 4150, 4151, 1009]),
  ((4, 104), (1, 3, [(4, 122)]), (⟨"DoorBench$Way", "recall", "(LDoorBench$Bench;I[I)I"⟩, "", ""), [4153, 4155, 27, 1011]),
  ((4, 128), (2, 2, [(4, 125), (10, 123), (7, 125), (5, 125), (11, 124), (8, 125), (6, 125), (9, 125)]), (⟨"DoorBench$Way", "placeOf", "(LDoorBench$Bench;I)I"⟩, "DoorBench$Way", ""), [4157, 4160, 4158, 4159, 4158, 1011, 4161, 4162, 1017, 4164, 4158, 1011, 4165, 4158, 1011, 4166, 4167, 1018, 4169, 4158, 1011, 4170, 4158, 1011, 4171, 4158, 1011]),
  ((4, 132), (1, 0, [(3, 111)]), (⟨"DoorBench$Bench", "settle", "()V"⟩, "", ""), [4173, 4074, 4075, 1009]),
  ((4, 111), (1, 4, [(4, 126)]), (⟨"DoorBench$Way", "twists", "(LDoorBench$Bench;II[I)Z"⟩, "", ""), [4174, 4176, 28, 1011]),
  ((4, 118), (1, 1, [(3, 127)]), (⟨"DoorBench$Bench", "rankOfOthers", "(I)I"⟩, "", ""), [4178, 4179, 4180, 1009]),
  ((3, 151), (1, 2, [(3, 128)]), (⟨"DoorBench$Bench", "otherThan", "(II)I"⟩, "", ""), [4182, 4183, 4184, 1009])]
def z_cV2 : List ((Nat × Nat) × (Nat × Nat × List (Nat × Nat)) × (MethodName × String × String) × List Nat) := [((4, 121), (1, 2, [(3, 128)]), (⟨"DoorBench$Bench", "otherThan", "(II)I"⟩, "", ""), [4186, 4183, 4184, 1009]),
  ((13, 119), (1, 4, [(0, 129)]), (⟨"DoorBench", "breach", "(IIII)I"⟩, "", ""), [4188, 4189, 4190, 1001]),
  ((0, 274), (1, 2, [(0, 130)]), (⟨"DoorBench", "refusalOfRows", "(II)I"⟩, "", ""), [4192, 4194, 29, 1001]),
  ((0, 277), (2, 3, [(4, 131), (10, 131), (7, 131), (5, 131), (11, 131), (8, 131), (6, 131), (9, 131)]), (⟨"DoorBench$Way", "decideRows", "(LDoorBench$Bench;I[I)V"⟩, "DoorBench$Way", ""), [4196, 4199, 4197, 4198, 4197, 1011, 4200, 4197, 1011, 4201, 4197, 1011, 4202, 4197, 1011, 4203, 4197, 1011, 4204, 4197, 1011, 4205, 4197, 1011, 4206, 4197, 1011]),
  ((4, 135), (1, 0, [(3, 132)]), (⟨"DoorBench$Bench", "manyRows", "()I"⟩, "", ""), [4208, 4209, 4210, 1009]),
  ((4, 138), (1, 1, [(3, 133)]), (⟨"DoorBench$Bench", "sitRow", "(I)V"⟩, "", ""), [4212, 4213, 4214, 1009]),
  ((3, 157), (1, 1, [(3, 134)]), (⟨"DoorBench$Bench", "numberAll", "(I)V"⟩, "", ""), [4216, 4218, 30, 1009]),
  ((3, 154), (1, 2, [(3, 135)]), (⟨"DoorBench$Bench", "numberIn", "(II)I"⟩, "", ""), [4220, 4222, 31, 1009]),
  ((0, 281), (1, 2, [(3, 136)]), (⟨"DoorBench$Bench", "breachOf", "(I[I)I"⟩, "", ""), [4224, 4225, 4226, 1009]),
  ((3, 164), (1, 0, [(3, 132)]), (⟨"DoorBench$Bench", "manyRows", "()I"⟩, "", ""), [4228, 4209, 4210, 1009]),
  ((3, 167), (1, 2, [(3, 137)]), (⟨"DoorBench$Bench", "firstUnalike", "([II)I"⟩, "", ""), [4229, 4231, 32, 1009]),
  ((3, 183), (1, 1, [(3, 138)]), (⟨"DoorBench$Bench", "rowInOrder", "(I)I"⟩, "", ""), [4233, 4235, 33, 1009]),
  ((3, 171), (1, 2, [(3, 139)]), (⟨"DoorBench$Bench", "firstNotOwn", "([II)I"⟩, "", ""), [4237, 4239, 34, 1009]),
  ((3, 186), (1, 1, [(3, 140)]), (⟨"DoorBench$Bench", "whoSaysYes", "(I)I"⟩, "", ""), [5001, 5003, 35, 1009]),
  ((3, 174), (1, 2, [(3, 141)]), (⟨"DoorBench$Bench", "firstOtherMind", "([II)I"⟩, "", ""), [5005, 5007, 36, 1009]),
  ((3, 189), (1, 1, [(2, 39)]), (⟨"DoorBench$Agenda", "answersOf", "(I)I"⟩, "", ""), [5009, 2149, 2150, 1005]),
  ((3, 177), (1, 2, [(3, 142)]), (⟨"DoorBench$Bench", "firstUnlawful", "([II)I"⟩, "", ""), [5010, 5012, 37, 1009]),
  ((3, 192), (1, 1, [(2, 44)]), (⟨"DoorBench$Agenda", "canStand", "(I)Z"⟩, "", ""), [5014, 2170, 2171, 1005]),
  ((3, 180), (1, 2, [(3, 143)]), (⟨"DoorBench$Bench", "firstSomebody", "([II)I"⟩, "", ""), [5015, 5017, 38, 1009]),
  ((13, 123), (1, 3, [(0, 144)]), (⟨"DoorBench", "keeper", "(III)I"⟩, "", ""), [5019, 5020, 5021, 1001]),
  ((0, 284), (1, 2, [(3, 145)]), (⟨"DoorBench$Bench", "keepsAll", "(I[I)Z"⟩, "", ""), [5023, 5024, 5025, 1009]),
  ((3, 160), (1, 2, [(3, 136)]), (⟨"DoorBench$Bench", "breachOf", "(I[I)I"⟩, "", ""), [5027, 4225, 4226, 1009]),
  ((13, 127), (1, 3, [(0, 146)]), (⟨"DoorBench", "mend", "(III)I"⟩, "", ""), [5028, 5029, 5030, 1001]),
  ((0, 288), (1, 2, [(2, 147)]), (⟨"DoorBench$Agenda", "mendBy", "(II)I"⟩, "", ""), [5032, 5033, 5034, 1005]),
  ((2, 103), (1, 2, [(2, 148)]), (⟨"DoorBench$Agenda", "isSafeWithout", "(II)Z"⟩, "", ""), [5036, 5038, 39, 1005]),
  ((2, 107), (1, 1, [(2, 149)]), (⟨"DoorBench$Agenda", "listFew", "(I)I"⟩, "", ""), [5040, 5042, 40, 1005]),
  ((2, 110), (1, 1, [(2, 151)]), (⟨"DoorBench$Agenda", "foursStand", "(I)Z"⟩, "", ""), [5048, 5050, 41, 1005]),
  ((2, 119), (1, 3, [(2, 152)]), (⟨"DoorBench$Agenda", "someOfFew", "(III)Z"⟩, "", ""), [5052, 5054, 42, 1005]),
  ((2, 113), (1, 1, [(2, 153)]), (⟨"DoorBench$Agenda", "threesStand", "(I)Z"⟩, "", ""), [5056, 5058, 43, 1005]),
  ((13, 131), (1, 3, [(0, 154)]), (⟨"DoorBench", "orders", "(III)I"⟩, "", ""), [5060, 5061, 5062, 1001]),
  ((0, 291), (1, 2, [(3, 155)]), (⟨"DoorBench$Bench", "ordersFor", "(IZ)I"⟩, "", ""), [5064, 5065, 5066, 1009]),
  ((3, 119), (1, 1, [(3, 87)]), (⟨"DoorBench$Bench", "orderFrom", "(I)V"⟩, "", ""), [5068, 3198, 3199, 1009]),
  ((3, 123), (1, 1, [(3, 90)]), (⟨"DoorBench$Bench", "inTurns", "(I)I"⟩, "", ""), [5069, 3211, 3212, 1009]),
  ((3, 126), (1, 0, [(3, 156)]), (⟨"DoorBench$Bench", "orderDigits", "()I"⟩, "", ""), [5070, 5072, 44, 1009]),
  ((3, 129), (1, 0, [(3, 157)]), (⟨"DoorBench$Bench", "nextOrder", "()V"⟩, "", ""), [5074, 5076, 45, 1009]),
  ((3, 132), (1, 2, [(3, 158)]), (⟨"DoorBench$Bench", "swapOrder", "(II)V"⟩, "", ""), [5078, 5080, 46, 1009]),
  ((13, 135), (1, 3, [(0, 159)]), (⟨"DoorBench", "act", "(III)I"⟩, "", ""), [5082, 5083, 5084, 1001]),
  ((0, 295), (2, 1, [(4, 163), (10, 163), (7, 160), (5, 160), (11, 163), (8, 162), (6, 160), (9, 163)]), (⟨"DoorBench$Way", "counts", "(I)I"⟩, "DoorBench$Way", ""), [5086, 5089, 5087, 5088, 5087, 1011, 5090, 5087, 1011, 5091, 5092, 1012, 5103, 5092, 1012, 5104, 5087, 1011, 5105, 5106, 1015, 5112, 5092, 1012, 5113, 5087, 1011]),
  ((5, 13), (2, 1, [(7, 161), (5, 161), (6, 161)]), (⟨"DoorBench$Heads", "note", "(I)V"⟩, "DoorBench$Way", ""), [5094, 5095, 5100, 5097, 5100, 1011, 5098, 5100, 1011, 5099, 5100, 1011]),
  ((8, 28), (2, 1, [(8, 161)]), (⟨"DoorBench$Near", "note", "(I)V"⟩, "DoorBench$Way", ""), [5108, 5109, 5100, 5110, 5100, 1011]),
  ((4, 31), (2, 1, [(10, 161), (7, 161), (5, 161), (11, 161), (8, 161), (6, 161), (9, 161), (4, 161)]), (⟨"DoorBench$Way", "note", "(I)V"⟩, "DoorBench$Way", ""), [5115, 8143, 5100, 8144, 5100, 1011, 8145, 5100, 1011, 8146, 5100, 1011, 8147, 5100, 1011, 8148, 5100, 1011, 8149, 5100, 1011, 8150, 5100, 1011, 8151, 5100, 1011]),
  ((0, 298), (2, 1, [(4, 167), (10, 164), (7, 167), (5, 167), (11, 167), (8, 167), (6, 166), (9, 165)]), (⟨"DoorBench$Way", "weighs", "(I)I"⟩, "DoorBench$Way", ""), [5116, 5119, 5117, 5118, 5117, 1011, 5120, 5121, 1017, 5134, 5117, 1011, 5135, 5117, 1011, 5136, 5117, 1011, 5137, 5117, 1011, 5138, 5139, 1013, 5151, 5127, 1016]),
  ((10, 38), (2, 1, [(10, 161)]), (⟨"DoorBench$Chair", "note", "(I)V"⟩, "DoorBench$Way", ""), [5123, 5124, 5100, 5125, 5100, 1011]),
  ((9, 27), (2, 1, [(10, 161), (9, 161)]), (⟨"DoorBench$Turns", "note", "(I)V"⟩, "DoorBench$Way", ""), [5129, 5130, 5100, 5131, 5100, 1011, 5132, 5100, 1011]),
  ((6, 30), (2, 1, [(6, 161)]), (⟨"DoorBench$Premises", "note", "(I)V"⟩, "DoorBench$Way", ""), [5141, 5142, 5100, 5143, 5100, 1011]),
  ((6, 39), (2, 1, [(6, 160)]), (⟨"DoorBench$Premises", "counts", "(I)I"⟩, "DoorBench$Heads", ""), [5147, 5148, 5092, 5150, 5092, 1012]),
  ((4, 35), (2, 1, [(4, 163), (10, 163), (7, 160), (5, 160), (11, 163), (8, 162), (6, 160), (9, 163)]), (⟨"DoorBench$Way", "counts", "(I)I"⟩, "DoorBench$Way", ""), [5153, 5089, 5087, 5088, 5087, 1011, 5090, 5087, 1011, 5091, 5092, 1012, 5103, 5092, 1012, 5104, 5087, 1011, 5105, 5106, 1015, 5112, 5092, 1012, 5113, 5087, 1011]),
  ((0, 301), (2, 1, [(4, 170), (10, 168), (7, 169), (5, 170), (11, 170), (8, 170), (6, 170), (9, 170)]), (⟨"DoorBench$Way", "binds", "(I)I"⟩, "DoorBench$Way", ""), [5154, 5157, 5155, 5156, 5155, 1011, 5158, 5159, 1017, 5164, 5165, 1014, 5172, 5155, 1011, 5173, 5155, 1011, 5174, 5155, 1011, 5175, 5155, 1011, 5176, 5155, 1011]),
  ((7, 33), (2, 1, [(7, 161)]), (⟨"DoorBench$Ends", "note", "(I)V"⟩, "DoorBench$Way", ""), [5167, 5168, 5100, 5169, 5100, 1011]),
  ((0, 304), (2, 1, [(4, 173), (10, 171), (7, 173), (5, 173), (11, 172), (8, 173), (6, 173), (9, 171)]), (⟨"DoorBench$Way", "tells", "(I)I"⟩, "DoorBench$Way", ""), [5178, 5181, 5179, 5180, 5179, 1011, 5182, 5183, 1016, 5186, 5179, 1011, 5187, 5179, 1011, 5188, 5189, 1018, 5196, 5179, 1011, 5197, 5179, 1011, 5198, 5183, 1016]),
  ((11, 44), (2, 1, [(11, 161)]), (⟨"DoorBench$Leader", "note", "(I)V"⟩, "DoorBench$Way", ""), [5191, 5192, 5100, 5193, 5100, 1011]),
  ((4, 39), (2, 1, [(4, 167), (10, 164), (7, 167), (5, 167), (11, 167), (8, 167), (6, 166), (9, 165)]), (⟨"DoorBench$Way", "weighs", "(I)I"⟩, "DoorBench$Way", ""), [5200, 5119, 5117, 5118, 5117, 1011, 5120, 5121, 1017, 5134, 5117, 1011, 5135, 5117, 1011, 5136, 5117, 1011, 5137, 5117, 1011, 5138, 5139, 1013, 5151, 5127, 1016]),
  ((4, 42), (2, 1, [(4, 170), (10, 168), (7, 169), (5, 170), (11, 170), (8, 170), (6, 170), (9, 170)]), (⟨"DoorBench$Way", "binds", "(I)I"⟩, "DoorBench$Way", ""), [5201, 5157, 5155, 5156, 5155, 1011, 5158, 5159, 1017, 5164, 5165, 1014, 5172, 5155, 1011, 5173, 5155, 1011, 5174, 5155, 1011, 5175, 5155, 1011, 5176, 5155, 1011]),
  ((13, 139), (1, 1, [(0, 174)]), (⟨"DoorBench", "trace", "(I)I"⟩, "", ""), [5202, 5203, 5204, 1001]),
  ((13, 143), (1, 2, [(0, 175)]), (⟨"DoorBench", "keep", "(II)I"⟩, "", ""), [5206, 5207, 5208, 1001]),
  ((13, 147), (1, 3, [(0, 176)]), (⟨"DoorBench", "row", "(III)I"⟩, "", ""), [5210, 5211, 5212, 1001]),
  ((13, 153), (1, 3, [(0, 177)]), (⟨"DoorBench", "put", "(IIJ)I"⟩, "", ""), [5215, 5216, 5217, 1001]),
  ((0, 313), (1, 2, [(0, 178)]), (⟨"DoorBench", "refusalOfPlace", "(II)I"⟩, "", ""), [5219, 5221, 47, 1001]),
  ((13, 158), (1, 2, [(0, 180)]), (⟨"DoorBench", "element", "(II)J"⟩, "", ""), [5226, 5227, 5228, 1001]),
  ((13, 163), (1, 5, [(0, 181)]), (⟨"DoorBench", "shift", "(IIIII)I"⟩, "", ""), [5231, 5232, 5233, 1001])]
def z_cV3 : List ((Nat × Nat) × (Nat × Nat × List (Nat × Nat)) × (MethodName × String × String) × List Nat) := [((0, 324), (1, 3, [(0, 182)]), (⟨"DoorBench", "hasPlaces", "(III)Z"⟩, "", ""), [5235, 5237, 48, 1001]),
  ((13, 167), (1, 2, [(0, 183)]), (⟨"DoorBench", "taken", "(II)I"⟩, "", ""), [6002, 6003, 6004, 1001]),
  ((0, 334), (2, 1, [(4, 184), (10, 184), (7, 184), (5, 184), (11, 184), (8, 184), (6, 184), (9, 184)]), (⟨"DoorBench$Way", "isUnder", "(I)Z"⟩, "DoorBench$Way", ""), [6006, 6009, 6007, 6008, 6007, 1011, 6010, 6007, 1011, 6011, 6007, 1011, 6012, 6007, 1011, 6013, 6007, 1011, 6014, 6007, 1011, 6015, 6007, 1011, 6016, 6007, 1011]),
  ((13, 171), (1, 1, [(0, 185)]), (⟨"DoorBench", "count", "(I)I"⟩, "", ""), [6019, 6020, 6021, 1001]),
  ((0, 337), (1, 0, [(0, 186)]), (⟨"DoorBench", "allJudges", "()I"⟩, "", ""), [6023, 6025, 49, 1001]),
  ((13, 17), (1, 2, [(12, 188)]), (⟨"DoorBenchModel", "feed", "(II)I"⟩, "", ""), [6193, 6194, 6195, 1003]),
  ((13, 22), (1, 0, [(12, 190)]), (⟨"DoorBenchModel", "agenda", "()I"⟩, "", ""), [6201, 6202, 6203, 1003]),
  ((12, 196), (1, 0, [(12, 191)]), (⟨"DoorBenchModel", "firstPart", "()V"⟩, "", ""), [6205, 6207, 50, 1003]),
  ((12, 147), (1, 1, [(12, 192)]), (⟨"DoorBenchModel", "takes", "(I)Z"⟩, "", ""), [6209, 6211, 51, 1003]),
  ((12, 139), (1, 0, [(12, 193)]), (⟨"DoorBenchModel", "byteAt", "()I"⟩, "", ""), [6213, 6215, 52, 1003]),
  ((12, 163), (1, 0, [(12, 194)]), (⟨"DoorBenchModel", "wrong", "()Z"⟩, "", ""), [6217, 6219, 53, 1003]),
  ((12, 179), (1, 1, [(12, 195)]), (⟨"DoorBenchModel", "questionOf", "(I)I"⟩, "", ""), [6223, 6225, 54, 1003]),
  ((12, 199), (1, 0, [(12, 196)]), (⟨"DoorBenchModel", "otherPart", "()V"⟩, "", ""), [6227, 6229, 55, 1003]),
  ((12, 190), (1, 0, [(12, 197)]), (⟨"DoorBenchModel", "letters", "()I"⟩, "", ""), [6231, 6233, 56, 1003]),
  ((12, 169), (1, 0, [(12, 198)]), (⟨"DoorBenchModel", "alike", "()Z"⟩, "", ""), [6235, 6237, 57, 1003]),
  ((12, 143), (1, 0, [(12, 199)]), (⟨"DoorBenchModel", "implied", "()Z"⟩, "", ""), [6239, 7001, 58, 1003]),
  ((12, 151), (1, 0, [(12, 200)]), (⟨"DoorBenchModel", "either", "()Z"⟩, "", ""), [7003, 7005, 59, 1003]),
  ((12, 154), (1, 0, [(12, 201)]), (⟨"DoorBenchModel", "both", "()Z"⟩, "", ""), [7007, 7009, 60, 1003]),
  ((12, 157), (1, 0, [(12, 202)]), (⟨"DoorBenchModel", "one", "()Z"⟩, "", ""), [7011, 7013, 61, 1003]),
  ((12, 166), (1, 0, [(12, 203)]), (⟨"DoorBenchModel", "opens", "()Z"⟩, "", ""), [7015, 7017, 62, 1003]),
  ((12, 176), (1, 1, [(12, 204)]), (⟨"DoorBenchModel", "atLeast", "(I)Z"⟩, "", ""), [7021, 7023, 63, 1003]),
  ((12, 202), (1, 3, [(12, 205)]), (⟨"DoorBenchModel", "keeps", "(III)Z"⟩, "", ""), [7025, 7027, 64, 1003]),
  ((12, 206), (1, 1, [(12, 206)]), (⟨"DoorBenchModel", "smallestPart", "(I)I"⟩, "", ""), [7029, 7031, 65, 1003]),
  ((13, 26), (1, 2, [(12, 208)]), (⟨"DoorBenchModel", "of", "(II)I"⟩, "", ""), [7036, 7037, 7038, 1003]),
  ((12, 209), (1, 1, [(12, 209)]), (⟨"DoorBenchModel", "isAgenda", "(I)Z"⟩, "", ""), [7040, 7042, 66, 1003]),
  ((13, 30), (1, 2, [(12, 210)]), (⟨"DoorBenchModel", "lawful", "(II)I"⟩, "", ""), [7044, 7045, 7046, 1003]),
  ((13, 34), (1, 2, [(12, 211)]), (⟨"DoorBenchModel", "broken", "(II)I"⟩, "", ""), [7048, 7049, 7050, 1003]),
  ((12, 212), (1, 2, [(12, 212)]), (⟨"DoorBenchModel", "isSet", "(II)Z"⟩, "", ""), [7052, 7054, 67, 1003]),
  ((13, 39), (1, 3, [(12, 213)]), (⟨"DoorBenchModel", "stands", "(III)I"⟩, "", ""), [7056, 7057, 7058, 1003]),
  ((12, 219), (1, 3, [(12, 214)]), (⟨"DoorBenchModel", "areAnswers", "(III)Z"⟩, "", ""), [7060, 7062, 68, 1003]),
  ((12, 222), (1, 3, [(12, 215)]), (⟨"DoorBenchModel", "canStand", "(III)Z"⟩, "", ""), [7064, 7066, 69, 1003]),
  ((13, 44), (1, 4, [(12, 217)]), (⟨"DoorBenchModel", "forced", "(IIII)I"⟩, "", ""), [7071, 7072, 7073, 1003]),
  ((12, 225), (1, 2, [(12, 218)]), (⟨"DoorBenchModel", "isQuestion", "(II)Z"⟩, "", ""), [7075, 7077, 70, 1003]),
  ((12, 228), (1, 4, [(12, 219)]), (⟨"DoorBenchModel", "forcedBy", "(IIII)I"⟩, "", ""), [7079, 7081, 71, 1003]),
  ((13, 48), (1, 3, [(12, 220)]), (⟨"DoorBenchModel", "why", "(III)I"⟩, "", ""), [7083, 7084, 7085, 1003]),
  ((13, 52), (1, 4, [(12, 221)]), (⟨"DoorBenchModel", "judge", "(IIII)I"⟩, "", ""), [7087, 7088, 7089, 1003]),
  ((13, 56), (1, 4, [(12, 222)]), (⟨"DoorBenchModel", "change", "(IIII)I"⟩, "", ""), [7092, 7093, 7094, 1003]),
  ((12, 234), (1, 2, [(12, 223)]), (⟨"DoorBenchModel", "isJudge", "(II)Z"⟩, "", ""), [7096, 7098, 72, 1003]),
  ((13, 60), (1, 4, [(12, 224)]), (⟨"DoorBenchModel", "read", "(IIII)I"⟩, "", ""), [7100, 7101, 7102, 1003]),
  ((13, 65), (1, 1, [(12, 226)]), (⟨"DoorBenchModel", "clear", "(I)I"⟩, "", ""), [7108, 7109, 7110, 1003]),
  ((13, 69), (1, 3, [(12, 227)]), (⟨"DoorBenchModel", "ofJudge", "(III)I"⟩, "", ""), [7112, 7113, 7114, 1003]),
  ((13, 73), (1, 3, [(12, 228)]), (⟨"DoorBenchModel", "votes", "(III)I"⟩, "", ""), [7117, 7118, 7119, 1003]),
  ((12, 255), (1, 1, [(12, 229)]), (⟨"DoorBenchModel", "sitDown", "(I)V"⟩, "", ""), [7121, 7123, 73, 1003]),
  ((12, 251), (1, 2, [(12, 230)]), (⟨"DoorBenchModel", "votesFor", "(II)I"⟩, "", ""), [7125, 7127, 74, 1003]),
  ((13, 77), (1, 2, [(12, 231)]), (⟨"DoorBenchModel", "far", "(II)I"⟩, "", ""), [7129, 7130, 7131, 1003]),
  ((12, 259), (1, 1, [(12, 232)]), (⟨"DoorBenchModel", "farFrom", "(I)I"⟩, "", ""), [7133, 7135, 75, 1003]),
  ((13, 81), (1, 2, [(12, 233)]), (⟨"DoorBenchModel", "nearest", "(II)I"⟩, "", ""), [7137, 7138, 7139, 1003]),
  ((12, 262), (1, 2, [(12, 234)]), (⟨"DoorBenchModel", "nearestOf", "(II)I"⟩, "", ""), [7141, 7143, 76, 1003]),
  ((13, 85), (1, 3, [(12, 235)]), (⟨"DoorBenchModel", "way", "(III)I"⟩, "", ""), [7145, 7146, 7147, 1003]),
  ((13, 89), (1, 2, [(12, 236)]), (⟨"DoorBenchModel", "ofWay", "(II)I"⟩, "", ""), [7151, 7152, 7153, 1003]),
  ((12, 272), (1, 1, [(12, 237)]), (⟨"DoorBenchModel", "isWay", "(I)Z"⟩, "", ""), [7155, 7157, 77, 1003]),
  ((13, 93), (1, 3, [(12, 238)]), (⟨"DoorBenchModel", "outcome", "(III)I"⟩, "", ""), [7159, 7160, 7161, 1003]),
  ((12, 303), (1, 1, [(12, 239)]), (⟨"DoorBenchModel", "find", "(I)V"⟩, "", ""), [7163, 7165, 78, 1003]),
  ((12, 248), (1, 0, [(12, 240)]), (⟨"DoorBenchModel", "all", "()I"⟩, "", ""), [7167, 7169, 79, 1003]),
  ((12, 288), (1, 1, [(12, 241)]), (⟨"DoorBenchModel", "byHeads", "(I)V"⟩, "", ""), [7171, 7173, 80, 1003]),
  ((12, 281), (1, 1, [(12, 242)]), (⟨"DoorBenchModel", "heads", "(I)I"⟩, "", ""), [7175, 7177, 81, 1003]),
  ((12, 284), (1, 2, [(12, 243)]), (⟨"DoorBenchModel", "answer", "(II)V"⟩, "", ""), [7179, 7181, 82, 1003]),
  ((12, 291), (1, 0, [(12, 244)]), (⟨"DoorBenchModel", "byPremises", "()V"⟩, "", ""), [7183, 7185, 83, 1003]),
  ((12, 294), (1, 0, [(12, 245)]), (⟨"DoorBenchModel", "byEnds", "()V"⟩, "", ""), [7187, 7189, 84, 1003]),
  ((12, 297), (1, 1, [(12, 246)]), (⟨"DoorBenchModel", "byTurns", "(I)V"⟩, "", ""), [7191, 7193, 85, 1003])]
def z_cV4 : List ((Nat × Nat) × (Nat × Nat × List (Nat × Nat)) × (MethodName × String × String) × List Nat) := [((12, 300), (1, 1, [(12, 247)]), (⟨"DoorBenchModel", "byLeader", "(I)V"⟩, "", ""), [7195, 7197, 86, 1003]),
  ((12, 306), (1, 0, [(12, 248)]), (⟨"DoorBenchModel", "brokenBy", "()I"⟩, "", ""), [7199, 7201, 87, 1003]),
  ((12, 309), (1, 0, [(12, 249)]), (⟨"DoorBenchModel", "isUnlawful", "()Z"⟩, "", ""), [7203, 7205, 88, 1003]),
  ((13, 97), (1, 2, [(12, 250)]), (⟨"DoorBenchModel", "benches", "(II)I"⟩, "", ""), [7207, 7208, 7209, 1003]),
  ((12, 320), (1, 2, [(12, 251)]), (⟨"DoorBenchModel", "noBenches", "(II)I"⟩, "", ""), [7211, 7213, 89, 1003]),
  ((12, 323), (1, 2, [(12, 252)]), (⟨"DoorBenchModel", "begin", "(II)V"⟩, "", ""), [7215, 7217, 90, 1003]),
  ((12, 312), (1, 0, [(12, 253)]), (⟨"DoorBenchModel", "seatAll", "()V"⟩, "", ""), [7219, 7221, 91, 1003]),
  ((12, 315), (1, 2, [(12, 254)]), (⟨"DoorBenchModel", "seat", "(II)V"⟩, "", ""), [7223, 7225, 92, 1003]),
  ((12, 326), (1, 1, [(12, 255)]), (⟨"DoorBenchModel", "goOn", "(Z)Z"⟩, "", ""), [7227, 7229, 93, 1003]),
  ((13, 101), (1, 4, [(12, 256)]), (⟨"DoorBenchModel", "unlawful", "(IIII)I"⟩, "", ""), [7231, 7232, 7233, 1003]),
  ((12, 330), (1, 0, [(12, 257)]), (⟨"DoorBenchModel", "code", "()I"⟩, "", ""), [7235, 7237, 94, 1003]),
  ((13, 106), (1, 5, [(12, 258)]), (⟨"DoorBenchModel", "unlike", "(IIIII)I"⟩, "", ""), [7239, 8000, 8001, 1003]),
  ((13, 110), (1, 4, [(12, 259)]), (⟨"DoorBenchModel", "sway", "(IIII)I"⟩, "", ""), [8003, 8004, 8005, 1003]),
  ((13, 114), (1, 3, [(12, 260)]), (⟨"DoorBenchModel", "twist", "(III)I"⟩, "", ""), [8007, 8008, 8009, 1003]),
  ((12, 336), (1, 2, [(12, 261)]), (⟨"DoorBenchModel", "twistOf", "(II)I"⟩, "", ""), [8011, 8013, 95, 1003]),
  ((12, 333), (1, 1, [(12, 262)]), (⟨"DoorBenchModel", "apart", "(I)I"⟩, "", ""), [8015, 8017, 96, 1003]),
  ((13, 118), (1, 3, [(12, 263)]), (⟨"DoorBenchModel", "twisted", "(III)I"⟩, "", ""), [8019, 8020, 8021, 1003]),
  ((13, 122), (1, 4, [(12, 264)]), (⟨"DoorBenchModel", "breach", "(IIII)I"⟩, "", ""), [8023, 8024, 8025, 1003]),
  ((12, 360), (1, 4, [(12, 265)]), (⟨"DoorBenchModel", "breachOf", "(IIII)I"⟩, "", ""), [8028, 8030, 97, 1003]),
  ((12, 345), (1, 3, [(12, 266)]), (⟨"DoorBenchModel", "findRows", "(III)V"⟩, "", ""), [8032, 8034, 98, 1003]),
  ((12, 342), (1, 2, [(12, 267)]), (⟨"DoorBenchModel", "setOf", "(II)I"⟩, "", ""), [8036, 8038, 99, 1003]),
  ((12, 349), (1, 2, [(12, 268)]), (⟨"DoorBenchModel", "sortedRow", "(II)I"⟩, "", ""), [8040, 8042, 100, 1003]),
  ((12, 352), (1, 2, [(12, 269)]), (⟨"DoorBenchModel", "isOwn", "(II)Z"⟩, "", ""), [8044, 8046, 101, 1003]),
  ((12, 355), (1, 2, [(12, 270)]), (⟨"DoorBenchModel", "isMinded", "(II)Z"⟩, "", ""), [8048, 8050, 102, 1003]),
  ((13, 126), (1, 3, [(12, 271)]), (⟨"DoorBenchModel", "keeper", "(III)I"⟩, "", ""), [8052, 8053, 8054, 1003]),
  ((13, 130), (1, 3, [(12, 272)]), (⟨"DoorBenchModel", "mend", "(III)I"⟩, "", ""), [8057, 8058, 8059, 1003]),
  ((12, 368), (1, 3, [(12, 273)]), (⟨"DoorBenchModel", "mends", "(III)Z"⟩, "", ""), [8061, 8063, 103, 1003]),
  ((13, 134), (1, 3, [(12, 274)]), (⟨"DoorBenchModel", "orders", "(III)I"⟩, "", ""), [8065, 8066, 8067, 1003]),
  ((12, 377), (1, 4, [(12, 275)]), (⟨"DoorBenchModel", "tryOrders", "(IIII)V"⟩, "", ""), [8069, 8071, 104, 1003]),
  ((13, 138), (1, 3, [(12, 276)]), (⟨"DoorBenchModel", "act", "(III)I"⟩, "", ""), [8073, 8074, 8075, 1003]),
  ((12, 393), (1, 2, [(12, 277)]), (⟨"DoorBenchModel", "counts", "(II)I"⟩, "", ""), [8077, 8079, 105, 1003]),
  ((12, 384), (1, 1, [(12, 278)]), (⟨"DoorBenchModel", "ranBody", "(I)V"⟩, "", ""), [8081, 8083, 106, 1003]),
  ((12, 396), (1, 2, [(12, 280)]), (⟨"DoorBenchModel", "weighs", "(II)I"⟩, "", ""), [8088, 8090, 107, 1003]),
  ((12, 399), (1, 2, [(12, 281)]), (⟨"DoorBenchModel", "binds", "(II)I"⟩, "", ""), [8092, 8094, 108, 1003]),
  ((12, 402), (1, 2, [(12, 282)]), (⟨"DoorBenchModel", "tells", "(II)I"⟩, "", ""), [8096, 8098, 109, 1003]),
  ((13, 142), (1, 1, [(12, 283)]), (⟨"DoorBenchModel", "trace", "(I)I"⟩, "", ""), [8100, 8101, 8102, 1003]),
  ((13, 146), (1, 2, [(12, 284)]), (⟨"DoorBenchModel", "keep", "(II)I"⟩, "", ""), [8104, 8105, 8106, 1003]),
  ((13, 150), (1, 3, [(12, 285)]), (⟨"DoorBenchModel", "row", "(III)I"⟩, "", ""), [8108, 8109, 8110, 1003]),
  ((13, 157), (1, 3, [(12, 286)]), (⟨"DoorBenchModel", "put", "(IIJ)I"⟩, "", ""), [8112, 8113, 8114, 1003]),
  ((12, 405), (1, 2, [(12, 287)]), (⟨"DoorBenchModel", "refusal", "(II)I"⟩, "", ""), [8116, 8118, 110, 1003]),
  ((13, 162), (1, 2, [(12, 289)]), (⟨"DoorBenchModel", "element", "(II)J"⟩, "", ""), [8123, 8124, 8125, 1003]),
  ((13, 166), (1, 5, [(12, 290)]), (⟨"DoorBenchModel", "shift", "(IIIII)I"⟩, "", ""), [8128, 8129, 8130, 1003]),
  ((13, 170), (1, 2, [(12, 291)]), (⟨"DoorBenchModel", "taken", "(II)I"⟩, "", ""), [8132, 8133, 8134, 1003]),
  ((13, 174), (1, 1, [(12, 292)]), (⟨"DoorBenchModel", "count", "(I)I"⟩, "", ""), [8136, 8137, 8138, 1003])]
def z_cV : List ((Nat × Nat) × (Nat × Nat × List (Nat × Nat)) × (MethodName × String × String) × List Nat) := z_cV0 ++ (z_cV1 ++ (z_cV2 ++ (z_cV3 ++ (z_cV4))))
def z_cI0 : List ((Nat × Nat) × (Nat × Nat × List (Nat × Nat)) × (MethodName × String × String) × List Nat) := [((13, 9), (3, 0, [(0, 1)]), (⟨"DoorBench", "<init>", "()V"⟩, "", ""), [1022, 1023, 1001]),
  ((0, 1), (7, 0, []), (⟨"java/lang/Object", "<init>", "()V"⟩, "", ""), [1025, 1026]),
  ((0, 9), (6, 0, [(0, 2)]), (⟨"DoorBench$Tape", "<init>", "()V"⟩, "", "DoorBench"), [1031, 1002]),
  ((1, 3), (7, 0, []), (⟨"java/lang/Object", "<init>", "()V"⟩, "", ""), [1033, 1026]),
  ((1, 107), (3, 5, [(0, 23)]), (⟨"DoorBench$Agenda", "<init>", "(IIII[J)V"⟩, "", ""), [1200, 1201, 1005]),
  ((2, 3), (7, 0, []), (⟨"java/lang/Object", "<init>", "()V"⟩, "", ""), [1203, 1026]),
  ((0, 82), (3, 1, [(0, 33)]), (⟨"DoorBench$Bench", "<init>", "(LDoorBench$Agenda;)V"⟩, "", ""), [2065, 2066, 1009]),
  ((3, 3), (7, 0, []), (⟨"java/lang/Object", "<init>", "()V"⟩, "", ""), [2068, 1026]),
  ((0, 197), (3, 3, [(0, 75)]), (⟨"DoorBench$Heads", "<init>", "(II[I)V"⟩, "", ""), [3066, 3067, 1012]),
  ((5, 1), (3, 5, [(0, 76)]), (⟨"DoorBench$Way", "<init>", "(II[III)V"⟩, "", ""), [3069, 3070, 1011]),
  ((4, 3), (7, 0, []), (⟨"java/lang/Object", "<init>", "()V"⟩, "", ""), [3072, 1026]),
  ((0, 202), (3, 3, [(0, 77)]), (⟨"DoorBench$Premises", "<init>", "(II[I)V"⟩, "", ""), [3100, 3101, 1013]),
  ((6, 1), (3, 3, [(0, 75)]), (⟨"DoorBench$Heads", "<init>", "(II[I)V"⟩, "", ""), [3103, 3067, 1012]),
  ((0, 205), (3, 3, [(0, 78)]), (⟨"DoorBench$Ends", "<init>", "(II[I)V"⟩, "", ""), [3112, 3113, 1014]),
  ((7, 1), (3, 3, [(0, 75)]), (⟨"DoorBench$Heads", "<init>", "(II[I)V"⟩, "", ""), [3115, 3067, 1012]),
  ((0, 208), (3, 3, [(0, 79)]), (⟨"DoorBench$Near", "<init>", "(II[I)V"⟩, "", ""), [3124, 3125, 1015]),
  ((8, 1), (3, 5, [(0, 76)]), (⟨"DoorBench$Way", "<init>", "(II[III)V"⟩, "", ""), [3127, 3070, 1011]),
  ((0, 211), (3, 5, [(0, 80)]), (⟨"DoorBench$Turns", "<init>", "(II[III)V"⟩, "", ""), [3136, 3137, 1016]),
  ((9, 1), (3, 5, [(0, 76)]), (⟨"DoorBench$Way", "<init>", "(II[III)V"⟩, "", ""), [3139, 3070, 1011]),
  ((0, 216), (3, 5, [(0, 81)]), (⟨"DoorBench$Chair", "<init>", "(II[III)V"⟩, "", ""), [3148, 3149, 1017]),
  ((10, 1), (3, 5, [(0, 80)]), (⟨"DoorBench$Turns", "<init>", "(II[III)V"⟩, "", ""), [3151, 3137, 1016]),
  ((0, 219), (3, 5, [(0, 82)]), (⟨"DoorBench$Leader", "<init>", "(II[III)V"⟩, "", ""), [3160, 3161, 1018]),
  ((11, 3), (3, 5, [(0, 76)]), (⟨"DoorBench$Way", "<init>", "(II[III)V"⟩, "", ""), [3163, 3070, 1011]),
  ((0, 220), (3, 5, [(0, 76)]), (⟨"DoorBench$Way", "<init>", "(II[III)V"⟩, "", ""), [3171, 3070, 1011]),
  ((5, 19), (4, 1, [(0, 163)]), (⟨"DoorBench$Way", "counts", "(I)I"⟩, "DoorBench$Way", ""), [5102, 5089, 3097, 5087, 1011]),
  ((8, 34), (4, 1, [(0, 163)]), (⟨"DoorBench$Way", "counts", "(I)I"⟩, "DoorBench$Way", ""), [5111, 5089, 3133, 5087, 1011]),
  ((10, 46), (4, 1, [(0, 165)]), (⟨"DoorBench$Turns", "weighs", "(I)I"⟩, "DoorBench$Turns", ""), [5126, 8152, 3157, 5127, 1016]),
  ((9, 30), (4, 1, [(0, 167)]), (⟨"DoorBench$Way", "weighs", "(I)I"⟩, "DoorBench$Way", ""), [5133, 5119, 3145, 5117, 1011]),
  ((6, 36), (9, 1, [(0, 167)]), (⟨"DoorBench$Heads", "weighs", "(I)I"⟩, "DoorBench$Way", ""), [5144, 5145, 3109, 3097, 5117, 1011]),
  ((10, 42), (9, 1, [(0, 170)]), (⟨"DoorBench$Turns", "binds", "(I)I"⟩, "DoorBench$Way", ""), [5161, 5162, 3157, 3145, 5155, 1011]),
  ((7, 39), (9, 1, [(0, 170)]), (⟨"DoorBench$Heads", "binds", "(I)I"⟩, "DoorBench$Way", ""), [5170, 5171, 3121, 3097, 5155, 1011]),
  ((9, 33), (4, 1, [(0, 173)]), (⟨"DoorBench$Way", "tells", "(I)I"⟩, "DoorBench$Way", ""), [5185, 5181, 3145, 5179, 1011]),
  ((11, 48), (4, 1, [(0, 173)]), (⟨"DoorBench$Way", "tells", "(I)I"⟩, "DoorBench$Way", ""), [5194, 5181, 3169, 5179, 1011]),
  ((11, 51), (4, 1, [(0, 170)]), (⟨"DoorBench$Way", "binds", "(I)I"⟩, "DoorBench$Way", ""), [5195, 5157, 3169, 5155, 1011]),
  ((13, 12), (3, 0, [(0, 187)]), (⟨"DoorBenchModel", "<init>", "()V"⟩, "", ""), [6029, 6030, 1003]),
  ((12, 1), (7, 0, []), (⟨"java/lang/Object", "<init>", "()V"⟩, "", ""), [6032, 1026])]
def z_cI : List ((Nat × Nat) × (Nat × Nat × List (Nat × Nat)) × (MethodName × String × String) × List Nat) := z_cI0
/-- words that a warmer machine doesn't keep by the general law: carried from call to call -/
def z_xw : List Jvm.Cond := [.methodLinkNest "DoorBench" 9 ⟨"DoorBench$Tape", "<init>", "()V"⟩ "DoorBench", .fieldLinkNest "DoorBench$Tape" 99 "DoorBench" "YES_SETS" "[J" "DoorBench", .fieldLinkNest "DoorBench$Agenda" 97 "DoorBench" "YES_SETS" "[J" "DoorBench", .methodLinkNest "DoorBench$Bench" 136 ⟨"DoorBench", "choose", "(II)I"⟩ "DoorBench", .methodLinkNest "DoorBench$Way" 125 ⟨"DoorBench", "choose", "(II)I"⟩ "DoorBench", .fieldLinkNest "DoorBench$Way" 28 "DoorBench" "KIND_ABOVE" "[I" "DoorBench", .castable "DoorBench$Heads" "DoorBench$Way", .castable "DoorBench$Premises" "DoorBench$Way", .castable "DoorBench$Ends" "DoorBench$Way", .castable "DoorBench$Near" "DoorBench$Way", .castable "DoorBench$Turns" "DoorBench$Way", .castable "DoorBench$Chair" "DoorBench$Way", .castable "DoorBench$Leader" "DoorBench$Way"]
end
section
/-! the mini-VM: the methods' own bytes, run over a heap that is a list of cells; references are places in that list.
    Places 0 .. 3 are read-only (the script, three tables); what the law makes comes behind them, in order. -/
abbrev zA : Type := Nat × ((Nat → Int32) ⊕ (Nat → Int64) ⊕ (Nat → Option Nat))
abbrev zE : Type := (Nat × zA) ⊕ (Nat × List Value)
abbrev zH : Type := List zE
abbrev zL : Type := List (Option Value)
abbrev zS : Type := List Value
def z_name (j : Nat) : MethodName := (z_m j).1
def z_b (j : Nat) : ByteArray := (z_m j).2.1
def z_ml (j : Nat) : Nat := (z_m j).2.2.1
def z_rt (j : Nat) : Option FieldType := (z_m j).2.2.2.1
def z_oc (j : Nat) : Nat := (z_m j).2.2.2.2
/-- a value has a type's form -/
def z_fit : FieldType → Value → Bool
  | .int, .int _ => true
  | .long, .long _ => true
  | .boolean, .int v => v == 0 || v == 1
  | .object _, .ref _ => true
  | .object _, .null => true
  | .array _, .ref _ => true
  | .array _, .null => true
  | _, _ => false
def z_cat (o : Option Value) : Bool := match o with
  | some (.long _) => true
  | some (.double _) => true
  | _ => false
def z_p1 (L : zL) (i : Nat) (v : Value) : zL := match i with
  | 0 => L.set 0 (some v)
  | k + 1 => if z_cat ((L[k]?).join) = true then (L.set (k + 1) (some v)).set k none else L.set (k + 1) (some v)
def z_p2 (L : zL) (i : Nat) (v : Value) : zL := (z_p1 L i v).set (i + 1) none
def z_ent (vs : List Value) (n : Nat) : zL := (vs.flatMap fun v => if v.category = 2 then [some v, none] else [some v]) ++ List.replicate (n - (vs.flatMap fun v => if v.category = 2 then [some v, none] else [some v]).length) none
def z_get (L : zL) (i : Nat) : Option Value := (L[i]?).join
def z_br {α : Type} (c : ClassFile.Cond) (x y : Int32) (a b : α) : α := match c with
  | .eq => if x = y then a else b
  | .ne => if x = y then b else a
  | .lt => if x < y then a else b
  | .ge => if x < y then b else a
  | .gt => if y < x then a else b
  | .le => if y < x then b else a
def z_tg (pc : Nat) (off : Int) : Option Nat := match (pc : Int) + off with
  | .ofNat t => some t
  | .negSucc _ => none
def z_out (i : Int32) (n : Nat) : Prop := i < 0 ∨ n ≤ i.toNatClampNeg
def z_updL (f : Nat → Int64) (k : Nat) (x : Int64) : Nat → Int64 := fun j => if j = k then x else f j
def z_updR (f : Nat → Option Nat) (k : Nat) (x : Option Nat) : Nat → Option Nat := fun j => if j = k then x else f j
def z_find {α : Type} (l : List ((Nat × Nat) × α)) (c i : Nat) : Option α := (l.find? fun e => e.1.1 == c && e.1.2 == i).map (·.2)
def z_dv : FieldType → Value
  | .int => .int 0
  | .boolean => .int 0
  | .long => .long 0
  | _ => .null
def z_nf (ci : Nat) : Nat := ((z_cl[ci]?).map (·.2.2)).getD 0
def z_blank (ci : Nat) : List Value := (List.range (z_nf ci)).map fun k => z_dv (z_fty ci k)
def z_len (i : Instr) (len : Nat) : Nat := match i with
  | .bipush _ | .iload _ | .lload _ | .aload _ | .istore _ | .lstore _ | .astore _ | .ldc _ | .newarray _ => 2
  | .sipush _ | .iinc _ _ | .ifCond _ _ | .if_icmp _ _ | .ifnull _ | .ifnonnull _ | .goto _ | .ldc_w _ | .ldc2_w _ | .getfield _ | .putfield _ | .getstatic _ | .new _ | .anewarray _ | .invokestatic _ | .invokevirtual _ | .invokespecial _ => 3
  | .tableswitch _ _ _ _ | .lookupswitch _ _ => len
  | _ => 1
/-- numbers, locals, stack, branches -/
def z_s1 (i : Instr) (pc : Nat) (L : zL) (S : zS) : Option (Nat × zL × zS) := match i with
  | .aconst_null => some (pc + 1, L, .null :: S)
  | .iconst n => some (pc + 1, L, .int (Int32.ofInt n) :: S)
  | .bipush n => some (pc + 2, L, .int (Int8.ofInt n).toInt32 :: S)
  | .sipush n => some (pc + 3, L, .int (Int16.ofInt n).toInt32 :: S)
  | .lconst n => some (pc + 1, L, .long (Int64.ofNat n) :: S)
  | .iload_n k => match z_get L k with | some (.int x) => some (pc + 1, L, .int x :: S) | _ => none
  | .iload k => match z_get L k with | some (.int x) => some (pc + 2, L, .int x :: S) | _ => none
  | .lload_n k => match z_get L k with | some (.long x) => some (pc + 1, L, .long x :: S) | _ => none
  | .lload k => match z_get L k with | some (.long x) => some (pc + 2, L, .long x :: S) | _ => none
  | .aload_n k => match z_get L k with | some (.ref x) => some (pc + 1, L, .ref x :: S) | some .null => some (pc + 1, L, .null :: S) | _ => none
  | .aload k => match z_get L k with | some (.ref x) => some (pc + 2, L, .ref x :: S) | some .null => some (pc + 2, L, .null :: S) | _ => none
  | .istore_n k => match S with | .int x :: r => if (k : Nat) < L.length then some (pc + 1, z_p1 L k (.int x), r) else none | _ => none
  | .istore k => match S with | .int x :: r => if k < L.length then some (pc + 2, z_p1 L k (.int x), r) else none | _ => none
  | .lstore_n k => match S with | .long x :: r => if (k : Nat) + 1 < L.length then some (pc + 1, z_p2 L k (.long x), r) else none | _ => none
  | .lstore k => match S with | .long x :: r => if k + 1 < L.length then some (pc + 2, z_p2 L k (.long x), r) else none | _ => none
  | .astore_n k => match S with | .ref x :: r => if (k : Nat) < L.length then some (pc + 1, z_p1 L k (.ref x), r) else none | .null :: r => if (k : Nat) < L.length then some (pc + 1, z_p1 L k .null, r) else none | _ => none
  | .astore k => match S with | .ref x :: r => if k < L.length then some (pc + 2, z_p1 L k (.ref x), r) else none | .null :: r => if k < L.length then some (pc + 2, z_p1 L k .null, r) else none | _ => none
  | .iinc k n => match z_get L k with | some (.int x) => some (pc + 3, z_p1 L k (.int (x + Int32.ofInt n)), S) | _ => none
  | .iadd => match S with | .int y :: .int x :: r => some (pc + 1, L, .int (x + y) :: r) | _ => none
  | .isub => match S with | .int y :: .int x :: r => some (pc + 1, L, .int (x - y) :: r) | _ => none
  | .imul => match S with | .int y :: .int x :: r => some (pc + 1, L, .int (x * y) :: r) | _ => none
  | .iand => match S with | .int y :: .int x :: r => some (pc + 1, L, .int (x &&& y) :: r) | _ => none
  | .ior => match S with | .int y :: .int x :: r => some (pc + 1, L, .int (x ||| y) :: r) | _ => none
  | .ixor => match S with | .int y :: .int x :: r => some (pc + 1, L, .int (x ^^^ y) :: r) | _ => none
  | .idiv => match S with | .int y :: .int x :: r => if y = 0 then none else some (pc + 1, L, .int (x / y) :: r) | _ => none
  | .irem => match S with | .int y :: .int x :: r => if y = 0 then none else some (pc + 1, L, .int (x - x / y * y) :: r) | _ => none
  | .ineg => match S with | .int x :: r => some (pc + 1, L, .int (-x) :: r) | _ => none
  | .ladd => match S with | .long y :: .long x :: r => some (pc + 1, L, .long (x + y) :: r) | _ => none
  | .lsub => match S with | .long y :: .long x :: r => some (pc + 1, L, .long (x - y) :: r) | _ => none
  | .land => match S with | .long y :: .long x :: r => some (pc + 1, L, .long (x &&& y) :: r) | _ => none
  | .lor => match S with | .long y :: .long x :: r => some (pc + 1, L, .long (x ||| y) :: r) | _ => none
  | .lxor => match S with | .long y :: .long x :: r => some (pc + 1, L, .long (x ^^^ y) :: r) | _ => none
  | .ishl => match S with | .int y :: .int x :: r => some (pc + 1, L, .int (x <<< (y &&& 31)) :: r) | _ => none
  | .ishr => match S with | .int y :: .int x :: r => some (pc + 1, L, .int (x >>> (y &&& 31)) :: r) | _ => none
  | .iushr => match S with | .int y :: .int x :: r => some (pc + 1, L, .int ((x.toUInt32 >>> (y.toUInt32 &&& Int32.toUInt32 31)).toInt32) :: r) | _ => none
  | .lushr => match S with | .int y :: .long x :: r => some (pc + 1, L, .long ((x.toUInt64 >>> (y.toInt64.toUInt64 &&& Int64.toUInt64 63)).toInt64) :: r) | _ => none
  | .lshl => match S with | .int y :: .long x :: r => some (pc + 1, L, .long (x <<< (y.toInt64 &&& 63)) :: r) | _ => none
  | .lcmp => match S with | .long y :: .long x :: r => some (pc + 1, L, .int (lg_cmp x y) :: r) | _ => none
  | .i2l => match S with | .int x :: r => some (pc + 1, L, .long x.toInt64 :: r) | _ => none
  | .l2i => match S with | .long x :: r => some (pc + 1, L, .int x.toInt32 :: r) | _ => none
  | .i2b => match S with | .int x :: r => some (pc + 1, L, .int x.toInt8.toInt32 :: r) | _ => none
  | .i2s => match S with | .int x :: r => some (pc + 1, L, .int x.toInt16.toInt32 :: r) | _ => none
  | .dup => match S with | v :: r => if v.category = 1 then some (pc + 1, L, v :: v :: r) else none | _ => none
  | .pop => match S with | v :: r => if v.category = 1 then some (pc + 1, L, r) else none | _ => none
  | .dup_x1 => match S with | v :: w :: r => if v.category = 1 ∧ w.category = 1 then some (pc + 1, L, v :: w :: v :: r) else none | _ => none
  | .dup_x2 => match S with | v :: w :: u :: r => if v.category = 1 ∧ w.category = 1 ∧ u.category = 1 then some (pc + 1, L, v :: w :: u :: v :: r) else none | _ => none
  | .dup2 => match S with | v :: w :: r => if v.category = 1 ∧ w.category = 1 then some (pc + 1, L, v :: w :: v :: w :: r) else if v.category = 2 then some (pc + 1, L, v :: v :: w :: r) else none | _ => none
  | .pop2 => match S with | v :: r => if v.category = 2 then some (pc + 1, L, r) else none | _ => none
  | .ifCond c off => match S, z_tg pc off with | .int x :: r, some t => some (z_br c x 0 t (pc + 3), L, r) | _, _ => none
  | .if_icmp c off => match S, z_tg pc off with | .int y :: .int x :: r, some t => some (z_br c x y t (pc + 3), L, r) | _, _ => none
  | .ifnull off => match S, z_tg pc off with | .null :: r, some t => some (t, L, r) | .ref _ :: r, some _ => some (pc + 3, L, r) | _, _ => none
  | .ifnonnull off => match S, z_tg pc off with | .null :: r, some _ => some (pc + 3, L, r) | .ref _ :: r, some t => some (t, L, r) | _, _ => none
  | .goto off => match z_tg pc off with | some t => some (t, L, S) | _ => none
  | .tableswitch d lo hi offs => match S with
    | .int x :: r => if x.toInt < lo ∨ hi < x.toInt then (match z_tg pc d with | some t => some (t, L, r) | _ => none)
      else (match offs[(x.toInt - lo).toNat]? with | some off => (match z_tg pc off with | some t => some (t, L, r) | _ => none) | _ => none)
    | _ => none
  | .lookupswitch d ps => match S with
    | .int x :: r => if (ps.toList.zip (ps.toList.drop 1)).all (fun (a, next) => a.1 < next.1) = true then (match z_tg pc (Op.lookupswitch.offset ps.toList d x.toInt) with | some t => some (t, L, r) | _ => none) else none
    | _ => none
  | _ => none
/-- the heap -/
def z_s2 (c : Nat) (init : Bool) (i : Instr) (pc : Nat) (S : zS) (M : zH) : Option (Nat × zS × zH) := match i with
  | .ldc k => (z_find z_ld c k).map fun q => (pc + 2, .int q.1 :: S, M)
  | .ldc_w k => (z_find z_ld c k).map fun q => (pc + 3, .int q.1 :: S, M)
  | .ldc2_w k => (z_find z_l2 c k).map fun q => (pc + 3, .long q.1 :: S, M)
  | .getstatic k => (z_find z_gs c k).map fun q => (pc + 3, .ref q.1 :: S, M)
  | .getfield k => match S with
    | .ref a :: r => match M[a]?, z_find z_fl c k with
      | some (.inr (ci, fs)), some q => if ci ∈ q.1.2 ∧ 4 ≤ a then (fs[q.1.1]?).map fun v => (pc + 3, v :: r, M) else none
      | _, _ => none
    | _ => none
  | .putfield k => match S with
    | v :: .ref a :: r => match M[a]?, z_find z_fl c k with
      | some (.inr (ci, fs)), some q => if ci ∈ q.1.2 ∧ 4 ≤ a ∧ z_fit (z_fty ci q.1.1) v = true ∧ q.1.1 < fs.length ∧ (((z_cl[ci]?).map fun w => (w.2.1 q.1.1).2.2.2) = some false ∨ (init = true ∧ q.2.1.2.1 = z_cn c)) then some (pc + 3, r, M.set a (.inr (ci, fs.set q.1.1 v))) else none
      | _, _ => none
    | _ => none
  | .new k => (z_find z_nw c k).map fun q => (pc + 3, .ref M.length :: S, M ++ [.inr (q.1, z_blank q.1)])
  | .newarray t => match S with
    | .int n :: r => if n < 0 ∨ 1000000 < n.toNatClampNeg then none else match t with
      | .int => some (pc + 2, .ref M.length :: r, M ++ [.inl (0, n.toNatClampNeg, .inl fun _ => 0)])
      | .long => some (pc + 2, .ref M.length :: r, M ++ [.inl (1, n.toNatClampNeg, .inr (.inl fun _ => 0))])
      | _ => none
    | _ => none
  | .anewarray k => match S with
    | .int n :: r => if n < 0 ∨ 1000000 < n.toNatClampNeg then none else (z_find z_an c k).map fun q => (pc + 3, .ref M.length :: r, M ++ [.inl (q.1, n.toNatClampNeg, .inr (.inr fun _ => none))])
    | _ => none
  | .arraylength => match S with
    | .ref a :: r => match M[a]? with | some (.inl (_, n, _)) => some (pc + 1, .int (Int32.ofNat n) :: r, M) | _ => none
    | _ => none
  | .iaload => match S with
    | .int i :: .ref a :: r => match M[a]? with | some (.inl (0, n, .inl f)) => if i < 0 ∨ n ≤ i.toNatClampNeg then none else some (pc + 1, .int (f i.toNatClampNeg) :: r, M) | _ => none
    | _ => none
  | .laload => match S with
    | .int i :: .ref a :: r => match M[a]? with | some (.inl (1, n, .inr (.inl f))) => if i < 0 ∨ n ≤ i.toNatClampNeg then none else some (pc + 1, .long (f i.toNatClampNeg) :: r, M) | _ => none
    | _ => none
  | .aaload => match S with
    | .int i :: .ref a :: r => match M[a]? with | some (.inl (t, n, .inr (.inr f))) => if i < 0 ∨ n ≤ i.toNatClampNeg ∨ a < 4 ∨ t < 2 then none else some (pc + 1, va_rf (f i.toNatClampNeg) :: r, M) | _ => none
    | _ => none
  | .iastore => match S with
    | .int x :: .int i :: .ref a :: r => match M[a]? with | some (.inl (0, n, .inl f)) => if i < 0 ∨ n ≤ i.toNatClampNeg ∨ a < 4 then none else some (pc + 1, r, M.set a (.inl (0, n, .inl (upd f i.toNatClampNeg x)))) | _ => none
    | _ => none
  | .lastore => match S with
    | .long x :: .int i :: .ref a :: r => match M[a]? with | some (.inl (1, n, .inr (.inl f))) => if i < 0 ∨ n ≤ i.toNatClampNeg ∨ a < 4 then none else some (pc + 1, r, M.set a (.inl (1, n, .inr (.inl (z_updL f i.toNatClampNeg x))))) | _ => none
    | _ => none
  | .aastore => match S with
    | .null :: .int i :: .ref a :: r => match M[a]? with | some (.inl (t, n, .inr (.inr f))) => if i < 0 ∨ n ≤ i.toNatClampNeg ∨ a < 4 ∨ t < 2 then none else some (pc + 1, r, M.set a (.inl (t, n, .inr (.inr (z_updR f i.toNatClampNeg none))))) | _ => none
    | .ref v :: .int i :: .ref a :: r => match M[a]?, M[v]? with
      | some (.inl (t, n, .inr (.inr f))), some (.inr (ci, _)) => if i < 0 ∨ n ≤ i.toNatClampNeg ∨ a < 4 ∨ v < 4 ∨ ¬ ((t = 2 ∧ ci = 3) ∨ (t = 3 ∧ 4 ≤ ci ∧ ci ≤ 11)) then none else some (pc + 1, r, M.set a (.inl (t, n, .inr (.inr (z_updR f i.toNatClampNeg (some v))))))
      | _, _ => none
    | _ => none
  | _ => none
/-- System.arraycopy of longs -/
def z_cpy (f g : Nat → Int64) (sp dp n : Nat) : Nat → Int64 := fun k => if dp ≤ k ∧ k < dp + n then f (sp + (k - dp)) else g k
def z_copy (S : zS) (M : zH) : Option (zS × zH) := match S with
  | .int n :: .int dp :: .ref a :: .int sp :: .ref b :: r => match M[a]?, M[b]? with
    | some (.inl (1, na, .inr (.inl g))), some (.inl (1, nb, .inr (.inl f))) =>
      if sp < 0 ∨ dp < 0 ∨ n < 0 ∨ a < 4 ∨ b < 4 ∨ nb < sp.toNatClampNeg + n.toNatClampNeg ∨ na < dp.toNatClampNeg + n.toNatClampNeg then none
      else some (r, M.set a (.inl (1, na, .inr (.inl (z_cpy f g sp.toNatClampNeg dp.toNatClampNeg n.toNatClampNeg)))))
    | _, _ => none
  | _ => none
def z_ws (S : zS) : Nat := (S.map fun v => v.category).sum
/-- a call site: its kind, the callee, the callee's arguments (the receiver first), the rest of the stack -/
def z_call (c : Nat) (i : Instr) (S : zS) (M : zH) : Option (Nat × Nat × List Value × zS) := match i with
  | .invokestatic k => match z_find z_cS c k with
    | some ((kd, n, tg), _) => match tg with
      | [(_, j)] => if n ≤ S.length then some (kd, j, (S.take n).reverse, S.drop n) else none
      | _ => none
    | _ => none
  | .invokevirtual k => match z_find z_cV c k with
    | some ((kd, n, tg), _) => match S[n]? with
      | some (.ref b) => match M[b]? with
        | some (.inr (ci, _)) => if 4 ≤ b then (tg.find? fun t => t.1 == ci).map fun t => (kd, t.2, .ref b :: (S.take n).reverse, S.drop (n + 1)) else none
        | _ => none
      | _ => none
    | _ => none
  | .invokespecial k => match z_find z_cI c k with
    | some ((kd, n, tg), _) => match S[n]?, tg with
      | some (.ref b), [(_, j)] => match M[b]? with
        | some (.inr (_, _)) => if 4 ≤ b then some (kd, j, .ref b :: (S.take n).reverse, S.drop (n + 1)) else none
        | _ => none
      | _, _ => none
    | _ => none
  | _ => none
/-- what isn't a call of a method of ours: Object's start, Math.max and min of ints -/
def z_s3 (c : Nat) (i : Instr) (pc : Nat) (S : zS) (M : zH) : Option (Nat × zS × zH) := match i with
  | .invokespecial k => match z_find z_cI c k, S with
    | some ((7, _, _), _), .ref _ :: r => if z_ws r ≤ 8 then some (pc + 3, r, M) else none
    | _, _ => none
  | .invokestatic k => match z_find z_cS c k with
    | some ((10, _, _), _) => match S with
      | .int y :: .int x :: r => if z_ws r ≤ 8 then some (pc + 3, .int (if x < y then y else x) :: r, M) else none
      | _ => none
    | some ((11, _, _), _) => match S with
      | .int y :: .int x :: r => if z_ws r ≤ 8 then some (pc + 3, .int (if y < x then y else x) :: r, M) else none
      | _ => none
    | _ => none
  | _ => none
/-- one step that stays in the method -/
def z_st (j : Nat) (i : Instr) (pc : Nat) (L : zL) (S : zS) (M : zH) : Option (Nat × zL × zS × zH) :=
  match z_s1 i pc L S with
  | some (pc1, L1, S1) => some (pc1, L1, S1, M)
  | none => match z_s2 (z_oc j) ((z_name j).name == "<init>") i pc S M with
    | some (pc1, S1, M1) => some (pc1, L, S1, M1)
    | none => match z_s3 (z_oc j) i pc S M with
      | some (pc1, S1, M1) => some (pc1, L, S1, M1)
      | none => none
/-- the end of a method: its answer -/
def z_end (j : Nat) (i : Instr) (S : zS) : Option (Option Value) := match i, z_rt j, S with
  | .return_, none, [] => some none
  | .ireturn, some .int, [.int v] => some (some (.int v))
  | .ireturn, some .boolean, [.int v] => if v = 0 ∨ v = 1 then some (some (.int v)) else none
  | .lreturn, some .long, [.long v] => some (some (.long v))
  | .areturn, some (.object _), [.ref a] => some (some (.ref a))
  | .areturn, some (.object _), [.null] => some (some .null)
  | _, _, _ => none
/-- a run: fuel n, depth d -/
def z_run : Nat → Nat → Nat → Nat → zL → zS → zH → Option (Option Value × zH)
  | 0, _, _, _, _, _, _ => none
  | n + 1, d, j, pc, L, S, M => match decode (z_b j) pc with
    | .error _ => none
    | .ok (i, len) => if len = z_len i len then
        match z_end j i S with
        | some r => some (r, M)
        | none => match z_st j i pc L S M with
          | some (pc1, L1, S1, M1) => z_run n d j pc1 L1 S1 M1
          | none => match d, z_call (z_oc j) i S M with
            | d1 + 1, some (kd, k, vs, r) => if z_ws r ≤ 8 ∧ kd ≠ 9 ∧ kd ≠ 8 ∧ (z_ent vs 0).length ≤ z_ml k then
                match z_run n d1 k 0 (z_ent vs (z_ml k)) [] M with
                | some (v, M1) => z_run n d j (pc + 3) L (v.toList ++ r) M1
                | none => none
              else none
            | _, _ => none
      else none
end
section
/-! the machine's state and the mini-VM's: when one stands for the other -/
def z_ty (t : Nat) : FieldType := match t with
  | 0 => .int
  | 1 => .long
  | 2 => .object "DoorBench$Bench"
  | _ => .object "DoorBench$Way"
abbrev zG : Type := (Nat → ClassId) × (Nat → Nat → Nat) × (Nat → ClassId)
/-- where a cell lies: the read-only ones by r, the others one behind the other from base on -/
def z_ad (r : Nat → Nat) (base k : Nat) : Nat := if k < 4 then r k else base + (k - 4)
def z_sh (ad : Nat → Nat) (v : Value) : Value := match v with
  | .ref a => .ref (ad a)
  | w => w
theorem z_sh_cat (ad : Nat → Nat) (v : Value) : (z_sh ad v).category = v.category := by cases v <;> rfl
def z_val (ad : Nat → Nat) (a : zA) (i : Nat) : Value := match a.2 with
  | .inl f => .int (f i)
  | .inr (.inl f) => .long (f i)
  | .inr (.inr f) => va_rf ((f i).map ad)
def z_at (G : zG) (ad : Nat → Nat) (k : Nat) (e : zE) (H : Heap) : Prop := match e with
  | .inl (t, a) => t < 4 ∧ H[ad k]? = some (arrV (G.2.2 t) a.1 (z_val ad a))
  | .inr (ci, fs) => ∃ r, z_cl[ci]? = some r ∧ t_OB (ad k) (G.1 ci) r.2.2 (G.2.1 ci) H (vp_V (fs.map (z_sh ad)))
/-- what is known of the classes -/
def z_K (G : zG) (U : State) : Prop := (∀ ci q, z_cl[ci]? = some q → u_Kn U q.1 q.2.1 q.2.2 (G.1 ci) (G.2.1 ci)) ∧ (∀ t, t < 4 → ArrOfT U (G.2.2 t) (z_ty t) ∧ va_RA U (G.2.2 t) (z_ty t)) ∧ (∀ w ∈ z_xw, va_Nw w U) ∧ va_AO "DoorBench$Bench" U ∧ va_AO "DoorBench$Way" U
/-- the read-only cells: the tables' statics hold them, and they hold what the list says -/
def z_ro (r : Nat → Nat) (A : Nat → Prop) (k : Nat) (e : zE) (U : State) (H : Heap) : Prop := match e with
  | .inl (t, n, .inl f) => t = 0 ∧ va_T .int (r k) n (fun j => .int (f j)) A U H
  | .inl (t, n, .inr (.inl f)) => t = 1 ∧ va_T .long (r k) n (fun j => .long (f j)) A U H
  | _ => False
def z_R (r : Nat → Nat) (A : Nat → Prop) (ro : zH) (U : State) (H : Heap) : Prop :=
  va_Z "DoorBench" "CHOOSE" "[I" (.ref (r 1)) A U H ∧ va_Z "DoorBench" "YES_SETS" "[J" (.ref (r 2)) A U H ∧ va_Z "DoorBench" "KIND_ABOVE" "[I" (.ref (r 3)) A U H ∧ ∀ k e, ro[k]? = some e → z_ro r A k e U H
def z_A (base : Nat) : Nat → Prop := fun q => base ≤ q
/-- a heap stands for a list of cells -/
def z_Rl (G : zG) (r : Nat → Nat) (base : Nat) (ro : zH) (H0 : Heap) (M : zH) (H : Heap) (locs : List Loc) : Prop :=
  H.size + 4 = base + M.length ∧ 4 ≤ M.length ∧ M.take 4 = ro ∧ (∀ k e, 4 ≤ k → M[k]? = some e → z_at G (z_ad r base) k e H) ∧ va_S (z_A base) H0 H locs ∧ base ≤ H0.size
/-- the locals -/
def z_lv (ad : Nat → Nat) (ls : Array Slot) (nL : Nat) (L : zL) : Prop := ls.size = nL ∧ L.length = nL ∧ lv_wf ls ∧ ∀ (i : Nat) (v : Value), L[i]? = some (some v) → ls[i]? = some (.val (z_sh ad v))
def z_as (ad : Nat → Nat) (L : zL) : List (Nat × Value) := (List.range L.length).filterMap fun i => (z_get L i).map fun v => (i, z_sh ad v)
theorem z_get_some {L : zL} {i : Nat} {v : Value} : z_get L i = some v ↔ L[i]? = some (some v) := by
  unfold z_get
  cases h : L[i]? with
  | none => simp
  | some o => simp
theorem z_as_mem {ad : Nat → Nat} {L : zL} {i : Nat} {w : Value} : (i, w) ∈ z_as ad L ↔ ∃ v, L[i]? = some (some v) ∧ w = z_sh ad v := by
  unfold z_as
  rw [List.mem_filterMap]
  constructor
  · rintro ⟨k, hk, h⟩
    cases hg : z_get L k with
    | none => rw [hg] at h; cases h
    | some v =>
      rw [hg] at h
      cases h
      exact ⟨v, z_get_some.mp hg, rfl⟩
  · rintro ⟨v, h, rfl⟩
    have hl : i < L.length := (List.getElem?_eq_some_iff.mp h).1
    exact ⟨i, List.mem_range.mpr hl, by rw [z_get_some.mpr h]; rfl⟩
theorem z_lv.has {ad : Nat → Nat} {ls : Array Slot} {nL : Nat} {L : zL} (h : z_lv ad ls nL L) : lv_has ls nL (z_as ad L) := by
  refine ⟨h.1, h.2.2.1, fun q hq => ?_⟩
  obtain ⟨v, h1, h2⟩ := z_as_mem.mp (show (q.1, q.2) ∈ z_as ad L from hq)
  rw [h2]
  exact h.2.2.2 _ _ h1
theorem z_lv.at {ad : Nat → Nat} {ls : Array Slot} {nL : Nat} {L : zL} (h : z_lv ad ls nL L) {i : Nat} {v : Value} (hi : z_get L i = some v) : ls[i]? = some (.val (z_sh ad v)) := h.2.2.2 _ _ (z_get_some.mp hi)
theorem z_cat_iff {v : Value} : z_cat (some v) = true ↔ v.category = 2 := by cases v <;> simp [z_cat, Value.category]
theorem z_p1_len (L : zL) (i : Nat) (v : Value) : (z_p1 L i v).length = L.length := by
  unfold z_p1
  split
  · simp
  · split <;> simp
theorem z_p1_get {L : zL} {i : Nat} {v : Value} {j : Nat} {w : Value} (h : (z_p1 L i v)[j]? = some (some w)) : (j = i ∧ w = v) ∨ (j ≠ i ∧ L[j]? = some (some w) ∧ ¬ (j + 1 = i ∧ w.category = 2)) := by
  unfold z_p1 at h
  split at h
  · by_cases hj : j = 0
    · subst hj
      rw [List.getElem?_set] at h
      split at h
      · split at h
        · cases h; exact Or.inl ⟨rfl, rfl⟩
        · cases h
      · rename_i q; exact absurd rfl q
    · rw [List.getElem?_set_ne (Ne.symm hj)] at h
      exact Or.inr ⟨hj, h, fun q => by omega⟩
  · rename_i k
    by_cases hj : j = k + 1
    · left
      refine ⟨hj, ?_⟩
      subst hj
      split at h
      · rw [List.getElem?_set_ne (by omega), List.getElem?_set] at h
        simp only [if_true] at h
        split at h
        · cases h; rfl
        · cases h
      · rw [List.getElem?_set] at h
        simp only [if_true] at h
        split at h
        · cases h; rfl
        · cases h
    · right
      refine ⟨hj, ?_⟩
      split at h
      · by_cases hk : j = k
        · subst hk
          rw [List.getElem?_set] at h
          simp only [if_true] at h
          split at h <;> cases h
        · rw [List.getElem?_set_ne (Ne.symm hk), List.getElem?_set_ne (Ne.symm hj)] at h
          exact ⟨h, fun q => hk (by omega)⟩
      · rename_i hc
        rw [List.getElem?_set_ne (Ne.symm hj)] at h
        refine ⟨h, fun q => hc ?_⟩
        have hk : j = k := by omega
        subst hk
        rw [h]
        exact z_cat_iff.mpr q.2
theorem z_lv.put1 {ad : Nat → Nat} {ls ls' : Array Slot} {nL : Nat} {L : zL} {i : Nat} {v : Value} (h : z_lv ad ls nL L)
    (h' : lv_has ls' nL ((i, z_sh ad v) :: (z_as ad L).filter (fun q => !(q.1 == i) && !(q.1 + 1 == i && q.2.category == 2)))) : z_lv ad ls' nL (z_p1 L i v) := by
  refine ⟨h'.1, by rw [z_p1_len]; exact h.2.1, h'.2.1, fun j w hj => ?_⟩
  rcases z_p1_get hj with ⟨rfl, rfl⟩ | ⟨h1, h2, h3⟩
  · exact h'.2.2 (_, _) List.mem_cons_self
  · refine h'.2.2 (j, z_sh ad w) (List.mem_cons_of_mem _ (List.mem_filter.mpr ⟨z_as_mem.mpr ⟨w, h2, rfl⟩, ?_⟩))
    simp only [Bool.and_eq_true, Bool.not_eq_true', beq_eq_false_iff_ne, Bool.and_eq_false_iff, z_sh_cat]
    refine ⟨h1, ?_⟩
    by_cases q : j + 1 = i
    · exact Or.inr (fun z => h3 ⟨q, z⟩)
    · exact Or.inl q
theorem z_lv.put2 {ad : Nat → Nat} {ls ls' : Array Slot} {nL : Nat} {L : zL} {i : Nat} {v : Value} (h : z_lv ad ls nL L)
    (h' : lv_has ls' nL ((i, z_sh ad v) :: (z_as ad L).filter (fun q => !(q.1 == i) && (!(q.1 == i + 1) && !(q.1 + 1 == i && q.2.category == 2))))) : z_lv ad ls' nL (z_p2 L i v) := by
  refine ⟨h'.1, by unfold z_p2; rw [List.length_set, z_p1_len]; exact h.2.1, h'.2.1, fun j w hj => ?_⟩
  unfold z_p2 at hj
  by_cases hji : j = i + 1
  · subst hji
    rw [List.getElem?_set] at hj
    simp only [if_true] at hj
    split at hj <;> cases hj
  · rw [List.getElem?_set_ne (Ne.symm hji)] at hj
    rcases z_p1_get hj with ⟨rfl, rfl⟩ | ⟨h1, h2, h3⟩
    · exact h'.2.2 (_, _) List.mem_cons_self
    · refine h'.2.2 (j, z_sh ad w) (List.mem_cons_of_mem _ (List.mem_filter.mpr ⟨z_as_mem.mpr ⟨w, h2, rfl⟩, ?_⟩))
      simp only [Bool.and_eq_true, Bool.not_eq_true', beq_eq_false_iff_ne, Bool.and_eq_false_iff, z_sh_cat]
      refine ⟨h1, hji, ?_⟩
      by_cases q : j + 1 = i
      · exact Or.inr (fun z => h3 ⟨q, z⟩)
      · exact Or.inl q
/-- the locals with which a method begins -/
theorem z_ent_list (ad : Nat → Nat) : ∀ (vs : List Value) (b j : Nat) (w : Value), (vs.flatMap fun v => if v.category = 2 then [some v, none] else [some v])[j]? = some (some w) → (b + j, z_sh ad w) ∈ lv_args b (vs.map (z_sh ad))
  | [], b, j, w, h => by simp at h
  | v :: vs, b, j, w, h => by
    rw [List.flatMap_cons] at h
    by_cases hc : v.category = 2
    · rw [if_pos hc] at h
      show _ ∈ (b, z_sh ad v) :: lv_args (if (z_sh ad v).category = 2 then b + 2 else b + 1) (vs.map (z_sh ad))
      rw [z_sh_cat, if_pos hc]
      match j, h with
      | 0, h => cases h; exact List.mem_cons_self
      | 1, h => cases h
      | k + 2, h =>
        have := z_ent_list ad vs (b + 2) k w h
        rw [show b + (k + 2) = b + 2 + k by omega]
        exact List.mem_cons_of_mem _ this
    · rw [if_neg hc] at h
      show _ ∈ (b, z_sh ad v) :: lv_args (if (z_sh ad v).category = 2 then b + 2 else b + 1) (vs.map (z_sh ad))
      rw [z_sh_cat, if_neg hc]
      match j, h with
      | 0, h => cases h; exact List.mem_cons_self
      | k + 1, h =>
        have := z_ent_list ad vs (b + 1) k w h
        rw [show b + (k + 1) = b + 1 + k by omega]
        exact List.mem_cons_of_mem _ this
theorem z_ent_sl (ad : Nat → Nat) (vs : List Value) : (lg_sl (vs.map (z_sh ad))).length = (z_ent vs 0).length := by
  induction vs with
  | nil => rfl
  | cons v vs ih =>
    have e1 : (z_ent (v :: vs) 0).length = (if v.category = 2 then 2 else 1) + (z_ent vs 0).length := by
      unfold z_ent
      simp only [Nat.zero_sub, List.replicate_zero, List.append_nil, List.flatMap_cons, List.length_append]
      split <;> simp
    rw [e1, ← ih, List.map_cons]
    cases v <;> simp [lg_sl, z_sh, Value.category] <;> omega
theorem z_lv_entry (ad : Nat → Nat) (vs : List Value) {n : Nat} (h : (z_ent vs 0).length ≤ n) : z_lv ad ((lg_sl (vs.map (z_sh ad)) ++ List.replicate (n - (lg_sl (vs.map (z_sh ad))).length) Slot.unset).toArray) n (z_ent vs n) := by
  have h0 := lv_entry (vs.map (z_sh ad)) (n := n) (by rw [z_ent_sl]; exact h)
  have e0 : (z_ent vs 0).length = (vs.flatMap fun v => if v.category = 2 then [some v, none] else [some v]).length := by simp [z_ent]
  refine ⟨h0.1, ?_, h0.2.1, fun i v hi => ?_⟩
  · unfold z_ent
    rw [List.length_append, List.length_replicate]
    omega
  · unfold z_ent at hi
    by_cases hl : i < (vs.flatMap fun v => if v.category = 2 then [some v, none] else [some v]).length
    · rw [List.getElem?_append_left hl] at hi
      have := z_ent_list ad vs 0 i v hi
      rw [Nat.zero_add] at this
      exact h0.2.2 _ this
    · rw [List.getElem?_append_right (by omega), List.getElem?_replicate] at hi
      split at hi <;> cases hi
end
section
/-! one step over numbers, locals, the stack: the machine follows the mini-VM (printed by wip/gen/s1.py) -/
section ZS1
variable {p : Program} {l : Launch} {e : Env} {R : Room} {s : State} {m : MethodId} {args : Array Value} {below : List Frame} {meth : Method} {c : Code} {H : Heap} {locs : List Loc} {cells slots : Nat} {Q : State → Prop}
variable {cc : ByteArray} {pc : Nat} {ls : Array Slot} {ad : Nat → Nat}
theorem z_tg_some {pc : Nat} {off : Int} {t : Nat} (h : z_tg pc off = some t) : (pc : Int) + off = (t : Int) := by
  unfold z_tg at h
  split at h
  · rename_i q; cases h; exact q
  · cases h
theorem z_cat1 {v : Value} {ad : Nat → Nat} (h : v.category = 1) : (z_sh ad v).category = 1 := by rw [z_sh_cat]; exact h
theorem z_cat2 {v : Value} {ad : Nat → Nat} (h : v.category = 2) : (z_sh ad v).category = 2 := by rw [z_sh_cat]; exact h
set_option maxHeartbeats 4000000 in
theorem z_s1_ok (hx : p.tables.exec = Jvm.exec) (hb : c.code = cc) {nL : Nat} {i : Instr} {len : Nat} {L L1 : zL} {S S1 : zS} {pc1 : Nat} (hl : z_lv ad ls nL L) (hdg : decode cc pc = .ok (i, len)) (hlen : len = z_len i len) (hst : z_s1 i pc L S = some (pc1, L1, S1))
    (kk : ∀ ls1, z_lv ad ls1 nL L1 → W p l e R s m args below meth c H locs cells slots Q (F0 m pc1 ls1 (S1.map (z_sh ad)))) : W p l e R s m args below meth c H locs cells slots Q (F0 m pc ls (S.map (z_sh ad))) := by
  have hLn := hl.2.1
  cases i
  case aconst_null =>
    obtain rfl : len = 1 := hlen
    cases hst
    exact lv_null hx hb hdg (kk ls hl)
  case iconst n =>
    obtain rfl : len = 1 := hlen
    cases hst
    exact lv_iconst hx hb hdg rfl (kk ls hl)
  case bipush n =>
    obtain rfl : len = 2 := hlen
    cases hst
    exact lv_bipush hx hb hdg rfl (kk ls hl)
  case sipush n =>
    obtain rfl : len = 3 := hlen
    cases hst
    exact lv_sipush hx hb hdg rfl (kk ls hl)
  case lconst n =>
    obtain rfl : len = 1 := hlen
    cases hst
    exact lv_lconst hx hb hdg rfl (kk ls hl)
  case iload_n k =>
    obtain rfl : len = 1 := hlen
    dsimp only [z_s1] at hst
    split at hst
    · rename_i v hg
      cases hst
      exact lv_iload_n hx hb hdg rfl (hl.at hg) (kk ls hl)
    · cases hst
  case iload k =>
    obtain rfl : len = 2 := hlen
    dsimp only [z_s1] at hst
    split at hst
    · rename_i v hg
      cases hst
      exact lv_iload hx hb hdg (hl.at hg) (kk ls hl)
    · cases hst
  case lload_n k =>
    obtain rfl : len = 1 := hlen
    dsimp only [z_s1] at hst
    split at hst
    · rename_i v hg
      cases hst
      exact lv_lload_n hx hb hdg rfl (hl.at hg) (kk ls hl)
    · cases hst
  case lload k =>
    obtain rfl : len = 2 := hlen
    dsimp only [z_s1] at hst
    split at hst
    · rename_i v hg
      cases hst
      exact lv_lload hx hb hdg (hl.at hg) (kk ls hl)
    · cases hst
  case aload_n k =>
    obtain rfl : len = 1 := hlen
    dsimp only [z_s1] at hst
    split at hst
    · rename_i v hg
      cases hst
      exact lv_aload_n hx hb hdg rfl (hl.at hg) (kk ls hl)
    · rename_i hg
      cases hst
      exact lv_aload_nN hx hb hdg rfl (hl.at hg) (kk ls hl)
    · cases hst
  case aload k =>
    obtain rfl : len = 2 := hlen
    dsimp only [z_s1] at hst
    split at hst
    · rename_i v hg
      cases hst
      exact lv_aload hx hb hdg (hl.at hg) (kk ls hl)
    · rename_i hg
      cases hst
      exact lv_aloadN hx hb hdg (hl.at hg) (kk ls hl)
    · cases hst
  case istore_n k =>
    obtain rfl : len = 1 := hlen
    dsimp only [z_s1] at hst
    split at hst
    · split at hst
      · rename_i hk
        cases hst
        exact lv_istore_n hx hb hdg rfl hl.has (by rw [← hLn]; exact hk) rfl (fun ls1 h1 => kk ls1 (hl.put1 h1))
      · cases hst
    · cases hst
  case istore k =>
    obtain rfl : len = 2 := hlen
    dsimp only [z_s1] at hst
    split at hst
    · split at hst
      · rename_i hk
        cases hst
        exact lv_istore hx hb hdg hl.has (by rw [← hLn]; exact hk) rfl (fun ls1 h1 => kk ls1 (hl.put1 h1))
      · cases hst
    · cases hst
  case lstore_n k =>
    obtain rfl : len = 1 := hlen
    dsimp only [z_s1] at hst
    split at hst
    · split at hst
      · rename_i hk
        cases hst
        exact lv_lstore_n hx hb hdg rfl hl.has (by rw [← hLn]; exact hk) rfl (fun ls1 h1 => kk ls1 (hl.put2 h1))
      · cases hst
    · cases hst
  case lstore k =>
    obtain rfl : len = 2 := hlen
    dsimp only [z_s1] at hst
    split at hst
    · split at hst
      · rename_i hk
        cases hst
        exact lv_lstore hx hb hdg hl.has (by rw [← hLn]; exact hk) rfl (fun ls1 h1 => kk ls1 (hl.put2 h1))
      · cases hst
    · cases hst
  case astore_n k =>
    obtain rfl : len = 1 := hlen
    dsimp only [z_s1] at hst
    split at hst
    · split at hst
      · rename_i hk
        cases hst
        exact lv_astore_n hx hb hdg rfl hl.has (by rw [← hLn]; exact hk) rfl (fun ls1 h1 => kk ls1 (hl.put1 h1))
      · cases hst
    · split at hst
      · rename_i hk
        cases hst
        exact lv_astore_nN hx hb hdg rfl hl.has (by rw [← hLn]; exact hk) rfl (fun ls1 h1 => kk ls1 (hl.put1 h1))
      · cases hst
    · cases hst
  case astore k =>
    obtain rfl : len = 2 := hlen
    dsimp only [z_s1] at hst
    split at hst
    · split at hst
      · rename_i hk
        cases hst
        exact lv_astore hx hb hdg hl.has (by rw [← hLn]; exact hk) rfl (fun ls1 h1 => kk ls1 (hl.put1 h1))
      · cases hst
    · split at hst
      · rename_i hk
        cases hst
        exact lv_astoreN hx hb hdg hl.has (by rw [← hLn]; exact hk) rfl (fun ls1 h1 => kk ls1 (hl.put1 h1))
      · cases hst
    · cases hst
  case iinc k n =>
    obtain rfl : len = 3 := hlen
    dsimp only [z_s1] at hst
    split at hst
    · rename_i v hg
      cases hst
      obtain ⟨q, hq⟩ := List.getElem?_of_mem (z_as_mem (ad := ad).mpr ⟨_, z_get_some.mp hg, rfl⟩)
      have hk : k < nL := by rw [← hLn]; exact (List.getElem?_eq_some_iff.mp (z_get_some.mp hg)).1
      exact lv_iinc hx hb hdg hl.has (k := q) hq rfl hk rfl (fun ls1 h1 => kk ls1 (hl.put1 h1))
    · cases hst
  case iadd =>
    obtain rfl : len = 1 := hlen
    dsimp only [z_s1] at hst
    split at hst
    · cases hst
      exact lv_iadd hx hb hdg (kk ls hl)
    · cases hst
  case isub =>
    obtain rfl : len = 1 := hlen
    dsimp only [z_s1] at hst
    split at hst
    · cases hst
      exact lv_isub hx hb hdg (kk ls hl)
    · cases hst
  case imul =>
    obtain rfl : len = 1 := hlen
    dsimp only [z_s1] at hst
    split at hst
    · cases hst
      exact lv_imul hx hb hdg (kk ls hl)
    · cases hst
  case iand =>
    obtain rfl : len = 1 := hlen
    dsimp only [z_s1] at hst
    split at hst
    · cases hst
      exact lv_iand hx hb hdg (kk ls hl)
    · cases hst
  case ior =>
    obtain rfl : len = 1 := hlen
    dsimp only [z_s1] at hst
    split at hst
    · cases hst
      exact lv_ior hx hb hdg (kk ls hl)
    · cases hst
  case ixor =>
    obtain rfl : len = 1 := hlen
    dsimp only [z_s1] at hst
    split at hst
    · cases hst
      exact lv_ixor hx hb hdg (kk ls hl)
    · cases hst
  case ineg =>
    obtain rfl : len = 1 := hlen
    dsimp only [z_s1] at hst
    split at hst
    · cases hst
      exact lv_ineg hx hb hdg (kk ls hl)
    · cases hst
  case ladd =>
    obtain rfl : len = 1 := hlen
    dsimp only [z_s1] at hst
    split at hst
    · cases hst
      exact lv_ladd hx hb hdg (kk ls hl)
    · cases hst
  case lsub =>
    obtain rfl : len = 1 := hlen
    dsimp only [z_s1] at hst
    split at hst
    · cases hst
      exact lv_lsub hx hb hdg (kk ls hl)
    · cases hst
  case land =>
    obtain rfl : len = 1 := hlen
    dsimp only [z_s1] at hst
    split at hst
    · cases hst
      exact lv_land hx hb hdg (kk ls hl)
    · cases hst
  case lor =>
    obtain rfl : len = 1 := hlen
    dsimp only [z_s1] at hst
    split at hst
    · cases hst
      exact lv_lor hx hb hdg (kk ls hl)
    · cases hst
  case lxor =>
    obtain rfl : len = 1 := hlen
    dsimp only [z_s1] at hst
    split at hst
    · cases hst
      exact lv_lxor hx hb hdg (kk ls hl)
    · cases hst
  case ishl =>
    obtain rfl : len = 1 := hlen
    dsimp only [z_s1] at hst
    split at hst
    · cases hst
      exact lv_ishl hx hb hdg (kk ls hl)
    · cases hst
  case ishr =>
    obtain rfl : len = 1 := hlen
    dsimp only [z_s1] at hst
    split at hst
    · cases hst
      exact lv_ishr hx hb hdg (kk ls hl)
    · cases hst
  case iushr =>
    obtain rfl : len = 1 := hlen
    dsimp only [z_s1] at hst
    split at hst
    · cases hst
      exact lv_iushr hx hb hdg rfl (kk ls hl)
    · cases hst
  case lushr =>
    obtain rfl : len = 1 := hlen
    dsimp only [z_s1] at hst
    split at hst
    · cases hst
      exact lv_lushr hx hb hdg rfl (kk ls hl)
    · cases hst
  case lshl =>
    obtain rfl : len = 1 := hlen
    dsimp only [z_s1] at hst
    split at hst
    · cases hst
      exact lv_lshl hx hb hdg rfl (kk ls hl)
    · cases hst
  case i2l =>
    obtain rfl : len = 1 := hlen
    dsimp only [z_s1] at hst
    split at hst
    · cases hst
      exact lv_i2l hx hb hdg rfl (kk ls hl)
    · cases hst
  case l2i =>
    obtain rfl : len = 1 := hlen
    dsimp only [z_s1] at hst
    split at hst
    · cases hst
      exact lv_l2i hx hb hdg rfl (kk ls hl)
    · cases hst
  case i2b =>
    obtain rfl : len = 1 := hlen
    dsimp only [z_s1] at hst
    split at hst
    · cases hst
      exact lv_i2b hx hb hdg rfl (kk ls hl)
    · cases hst
  case i2s =>
    obtain rfl : len = 1 := hlen
    dsimp only [z_s1] at hst
    split at hst
    · cases hst
      exact lv_i2s hx hb hdg rfl (kk ls hl)
    · cases hst
  case lcmp =>
    obtain rfl : len = 1 := hlen
    dsimp only [z_s1] at hst
    split at hst
    · cases hst
      exact W.lcmp hx hb hdg (kk ls hl)
    · cases hst
  case idiv =>
    obtain rfl : len = 1 := hlen
    dsimp only [z_s1] at hst
    split at hst
    · split at hst
      · cases hst
      · rename_i hne
        cases hst
        exact lv_idiv hx hb hdg hne (kk ls hl)
    · cases hst
  case irem =>
    obtain rfl : len = 1 := hlen
    dsimp only [z_s1] at hst
    split at hst
    · split at hst
      · cases hst
      · rename_i hne
        cases hst
        exact lv_irem hx hb hdg hne (kk ls hl)
    · cases hst
  case dup =>
    obtain rfl : len = 1 := hlen
    dsimp only [z_s1] at hst
    split at hst
    · split at hst
      · rename_i h1
        cases hst
        exact lv_dup hx hb hdg (z_cat1 h1) (kk ls hl)
      · cases hst
    · cases hst
  case pop =>
    obtain rfl : len = 1 := hlen
    dsimp only [z_s1] at hst
    split at hst
    · split at hst
      · rename_i h1
        cases hst
        exact lv_pop hx hb hdg (z_cat1 h1) (kk ls hl)
      · cases hst
    · cases hst
  case dup_x1 =>
    obtain rfl : len = 1 := hlen
    dsimp only [z_s1] at hst
    split at hst
    · split at hst
      · rename_i h1
        cases hst
        exact lv_dup_x1 hx hb hdg (z_cat1 h1.1) (z_cat1 h1.2) (kk ls hl)
      · cases hst
    · cases hst
  case dup_x2 =>
    obtain rfl : len = 1 := hlen
    dsimp only [z_s1] at hst
    split at hst
    · split at hst
      · rename_i h1
        cases hst
        exact lv_dup_x2 hx hb hdg (z_cat1 h1.1) (z_cat1 h1.2.1) (z_cat1 h1.2.2) (kk ls hl)
      · cases hst
    · cases hst
  case dup2 =>
    obtain rfl : len = 1 := hlen
    dsimp only [z_s1] at hst
    split at hst
    · split at hst
      · rename_i h1
        cases hst
        exact lv_dup2_11 hx hb hdg (z_cat1 h1.1) (z_cat1 h1.2) (kk ls hl)
      · split at hst
        · rename_i h1
          cases hst
          exact lv_dup2_2 hx hb hdg (z_cat2 h1) (kk ls hl)
        · cases hst
    · cases hst
  case pop2 =>
    obtain rfl : len = 1 := hlen
    dsimp only [z_s1] at hst
    split at hst
    · split at hst
      · rename_i h1
        cases hst
        exact lv_pop2_2 hx hb hdg (z_cat2 h1) (kk ls hl)
      · cases hst
    · cases hst
  case ifCond cnd off =>
    obtain rfl : len = 3 := hlen
    dsimp only [z_s1] at hst
    split at hst
    · rename_i ht
      cases hst
      have ht := z_tg_some ht
      cases cnd
      case eq => exact lv_if_eq hx hb hdg ht (fun q => by have k := kk ls hl; simp only [z_br, if_pos q] at k; exact k) (fun q => by have k := kk ls hl; simp only [z_br, if_neg q] at k; exact k)
      case ne => exact lv_if_ne hx hb hdg ht (fun q => by have k := kk ls hl; simp only [z_br, if_neg q] at k; exact k) (fun q => by have k := kk ls hl; simp only [z_br, if_pos q] at k; exact k)
      case lt => exact lv_if_lt hx hb hdg ht (fun q => by have k := kk ls hl; simp only [z_br, if_pos q] at k; exact k) (fun q => by have k := kk ls hl; simp only [z_br, if_neg q] at k; exact k)
      case ge => exact lv_if_ge hx hb hdg ht (fun q => by have k := kk ls hl; simp only [z_br, if_neg (Int32.not_lt.mpr q)] at k; exact k) (fun q => by have k := kk ls hl; simp only [z_br, if_pos (Int32.not_le.mp q)] at k; exact k)
      case gt => exact lv_if_gt hx hb hdg ht (fun q => by have k := kk ls hl; simp only [z_br, if_pos q] at k; exact k) (fun q => by have k := kk ls hl; simp only [z_br, if_neg q] at k; exact k)
      case le => exact lv_if_le hx hb hdg ht (fun q => by have k := kk ls hl; simp only [z_br, if_neg (Int32.not_lt.mpr q)] at k; exact k) (fun q => by have k := kk ls hl; simp only [z_br, if_pos (Int32.not_le.mp q)] at k; exact k)
    · cases hst
  case if_icmp cnd off =>
    obtain rfl : len = 3 := hlen
    dsimp only [z_s1] at hst
    split at hst
    · rename_i ht
      cases hst
      have ht := z_tg_some ht
      cases cnd
      case eq => exact lv_icmp_eq hx hb hdg ht (fun q => by have k := kk ls hl; simp only [z_br, if_pos q] at k; exact k) (fun q => by have k := kk ls hl; simp only [z_br, if_neg q] at k; exact k)
      case ne => exact lv_icmp_ne hx hb hdg ht (fun q => by have k := kk ls hl; simp only [z_br, if_neg q] at k; exact k) (fun q => by have k := kk ls hl; simp only [z_br, if_pos q] at k; exact k)
      case lt => exact lv_icmp_lt hx hb hdg ht (fun q => by have k := kk ls hl; simp only [z_br, if_pos q] at k; exact k) (fun q => by have k := kk ls hl; simp only [z_br, if_neg q] at k; exact k)
      case ge => exact lv_icmp_ge hx hb hdg ht (fun q => by have k := kk ls hl; simp only [z_br, if_neg (Int32.not_lt.mpr q)] at k; exact k) (fun q => by have k := kk ls hl; simp only [z_br, if_pos (Int32.not_le.mp q)] at k; exact k)
      case gt => exact lv_icmp_gt hx hb hdg ht (fun q => by have k := kk ls hl; simp only [z_br, if_pos q] at k; exact k) (fun q => by have k := kk ls hl; simp only [z_br, if_neg q] at k; exact k)
      case le => exact lv_icmp_le hx hb hdg ht (fun q => by have k := kk ls hl; simp only [z_br, if_neg (Int32.not_lt.mpr q)] at k; exact k) (fun q => by have k := kk ls hl; simp only [z_br, if_pos (Int32.not_le.mp q)] at k; exact k)
    · cases hst
  case ifnull off =>
    obtain rfl : len = 3 := hlen
    dsimp only [z_s1] at hst
    split at hst
    · rename_i ht
      cases hst
      exact lv_ifnullN hx hb hdg (z_tg_some ht) (kk ls hl)
    · cases hst
      exact lv_ifnull hx hb hdg (kk ls hl)
    · cases hst
  case ifnonnull off =>
    obtain rfl : len = 3 := hlen
    dsimp only [z_s1] at hst
    split at hst
    · cases hst
      exact lv_ifnonnullN hx hb hdg (kk ls hl)
    · rename_i ht
      cases hst
      exact lv_ifnonnull hx hb hdg (z_tg_some ht) (kk ls hl)
    · cases hst
  case goto off =>
    obtain rfl : len = 3 := hlen
    dsimp only [z_s1] at hst
    split at hst
    · rename_i ht
      cases hst
      exact lv_goto hx hb hdg (z_tg_some ht) (kk ls hl)
    · cases hst
  case tableswitch d lo hi offs =>
    dsimp only [z_s1] at hst
    split at hst
    · split at hst
      · rename_i hc
        split at hst
        · rename_i ht
          cases hst
          exact lv_tableOut hx hb hdg hc (z_tg_some ht) (kk ls hl)
        · cases hst
      · rename_i hc
        have hc1 := not_or.mp hc
        split at hst
        · rename_i ho
          split at hst
          · rename_i ht
            cases hst
            exact lv_tableIn hx hb hdg hc1.1 hc1.2 ho (z_tg_some ht) (kk ls hl)
          · cases hst
        · cases hst
    · cases hst
  case lookupswitch d ps =>
    dsimp only [z_s1] at hst
    split at hst
    · split at hst
      · rename_i hp
        split at hst
        · rename_i ht
          cases hst
          exact lv_lookup hx hb hdg hp rfl (z_tg_some ht) (kk ls hl)
        · cases hst
      · cases hst
    · cases hst
  all_goals cases hst
end ZS1
end
section
/-! the data hold: each word stands in the tables at its place -/
def z_tb : List Jvm.Cond := lw_tbl.filter goodWord
theorem z_tk_sub : ∀ l ∈ z_tk, ∀ w ∈ l, w ∈ lw_tbl := by
  intro l hl w hw
  simp only [z_tk, List.mem_cons, List.not_mem_nil, or_false] at hl
  show w ∈ k2_sels lw_privs ++ (tables_1_1 ++ (tables_1_2 ++ (tables_1_3 ++ (tables_1_4 ++ (tables_1_5 ++ (tables_1_6 ++ (tables_1_7 ++ tables_1_8)))))))
  simp only [List.mem_append]
  rcases hl with rfl | rfl | rfl | rfl | rfl | rfl | rfl | rfl | rfl <;> simp only [hw, true_or, or_true]
def z_in (p : Nat) (w : Jvm.Cond) : Bool := decide (z_look p = some w) && goodWord w
theorem z_in_mem {p : Nat} {w : Jvm.Cond} (h : z_in p w = true) : w ∈ z_tb := by
  simp only [z_in, Bool.and_eq_true, decide_eq_true_eq] at h
  obtain ⟨l, h1, h2⟩ := Option.bind_eq_some_iff.mp h.1
  exact List.mem_filter.mpr ⟨z_tk_sub l (List.mem_of_getElem? h1) w (List.mem_of_getElem? h2), h.2⟩
def z_ins (ws : List Jvm.Cond) (ps : List Nat) : Bool := decide (ws.length = ps.length) && (ws.zip ps).all fun q => z_in q.2 q.1
theorem z_ins_mem {ws : List Jvm.Cond} {ps : List Nat} (h : z_ins ws ps = true) : ∀ w ∈ ws, w ∈ z_tb := by
  simp only [z_ins, Bool.and_eq_true, decide_eq_true_eq, List.all_eq_true] at h
  intro w hw
  obtain ⟨i, hi⟩ := List.getElem?_of_mem hw
  have hl : i < ws.length := (List.getElem?_eq_some_iff.mp hi).1
  have hp : ps[i]? = some ps[i] := List.getElem?_eq_getElem (by rw [← h.1]; exact hl)
  have hm : (w, ps[i]) ∈ ws.zip ps := List.mem_of_getElem? (i := i) (by rw [List.getElem?_zip_eq_some]; exact ⟨hi, hp⟩)
  exact z_in_mem (h.2 _ hm)
theorem z_tb_good : GoodIn z_tb z_tb := fun w hw => ⟨hw, good_of_word (List.mem_filter.mp hw).2⟩
def z_fine (cn : String) : Bool := decide (cn ≠ "java/lang/invoke/MethodHandle") && decide (cn ≠ "java/lang/invoke/VarHandle")
def z_okm (j : Nat) : Bool := plainName (z_name j).cls && (decide (z_cn (z_oc j) = (z_name j).cls) && (decide (z_ml j ≤ 20) && z_fine (z_name j).cls))
set_option maxRecDepth 100000 in
theorem z_okm_all : ∀ j, j < z_nm → z_okm j = true := by decide +kernel
theorem z_cw_all : ∀ q ∈ z_mq, z_cw q := by
  intro q hq
  simp only [z_mq, List.mem_append] at hq
  rcases hq with h | h | h | h | h | h | h | h
  · exact z_cw0 q h
  · exact z_cw1 q h
  · exact z_cw2 q h
  · exact z_cw3 q h
  · exact z_cw4 q h
  · exact z_cw5 q h
  · exact z_cw6 q h
  · exact z_cw7 q h
/-- a method's code word -/
theorem z_code {j : Nat} (h1 : 1 ≤ j) (h2 : j < z_nm) : Jvm.Cond.code (z_name j) (z_b j) (z_ml j) (z_rt j) ∈ z_tb := by
  match j, h1, h2 with
  | k + 1, _, h2 =>
    have hl : k < z_mq.length := by
      have e : z_mq.length + 1 = z_nm := by decide +kernel
      omega
    have he : z_mq[k]? = some z_mq[k] := List.getElem?_eq_getElem hl
    have hc := z_cw_all _ (List.mem_of_getElem? he)
    have hm : z_m (k + 1) = (z_mq[k]).1 := by
      show ((z_mq[k]?).map (·.1)).getD _ = _
      rw [he]
      rfl
    unfold z_name z_b z_ml z_rt
    rw [hm]
    unfold z_cw at hc
    obtain ⟨l, q1, q2⟩ := Option.bind_eq_some_iff.mp hc
    exact List.mem_filter.mpr ⟨z_tk_sub l (List.mem_of_getElem? q1) _ (List.mem_of_getElem? q2), rfl⟩
def z_np (x : MethodName) (n : Nat) : Bool := decide ((parseMethodDescriptor x.desc).map (fun d => d.parameters.length) = some n)
def z_okj (k : Nat) : Bool := decide (1 ≤ k ∧ k < z_nm)
abbrev zC : Type := (Nat × Nat) × (Nat × Nat × List (Nat × Nat)) × (MethodName × String × String) × List Nat
def z_okS (q : zC) : Bool := match q with
  | ((c, idx), (kd, n, tg), (y, _, host), ps) => match kd, tg with
    | 0, [(_, k)] => decide (y = z_name k) && (z_np y n && (z_okj k && z_ins [.methodLink (z_cn c) idx y, .static y, .initialized y.cls] ps))
    | 5, [(_, k)] => decide (y = z_name k) && (z_np y n && (z_okj k && (z_ins [.static y, .initialized y.cls] ps && decide (Jvm.Cond.methodLinkNest (z_cn c) idx y host ∈ z_xw))))
    | 10, [] => decide (y = Jvm.Lib.Math.max.name) && z_ins [.methodLink (z_cn c) idx y, .static y, .initialized "java/lang/Math", .code y Jvm.Lib.Math.max.code 2 (some .int)] ps
    | 11, [] => decide (y = Jvm.Lib.Math.min.name) && z_ins [.methodLink (z_cn c) idx y, .static y, .initialized "java/lang/Math", .code y Jvm.Lib.Math.min.code 2 (some .int)] ps
    | 8, [] => decide (y = arraycopyName) && (decide (n = 5) && z_ins [.methodLink (z_cn c) idx y, .native y, .static y, .initialized y.cls] ps)
    | _, _ => false
def z_okV (q : zC) : Bool := match q with
  | ((c, idx), (kd, n, tg), (y, ow, _), ps) => match kd, tg with
    | 1, [(ci, k)] => decide (y = z_name k) && (z_np y n && (z_okj k && (decide (z_cn ci = y.cls ∧ ci < 13) && z_ins [.methodLink (z_cn c) idx y, .instanceMethod y, .selects y.cls y y, .initialized y.cls] ps)))
    | 2, tg => z_np y n && (z_fine ow && (z_ins ([.methodLink (z_cn c) idx y, .sameMethod y.cls ow y.name y.desc, .instanceMethod ⟨ow, y.name, y.desc⟩] ++ tg.flatMap fun t => [.selects (z_cn t.1) y (z_name t.2), .instanceMethod (z_name t.2), .initialized (z_name t.2).cls]) ps &&
        ((tg.all fun t => z_okj t.2 && decide (t.1 < 13)) && ((List.range z_nm).any fun k => z_okj k && decide (z_name k = ⟨ow, y.name, y.desc⟩)))))
    | _, _ => false
def z_okI (q : zC) : Bool := match q with
  | ((c, idx), (kd, n, tg), (y, ow, host), ps) => match kd, tg with
    | 3, [(_, k)] => decide (y = z_name k ∧ y.name = "<init>" ∧ z_rt k = none) && (z_np y n && (z_okj k && z_ins [.methodLink (z_cn c) idx y, .instanceMethod y, .initialized y.cls] ps))
    | 6, [(_, k)] => decide (y = z_name k ∧ y.name = "<init>" ∧ z_rt k = none) && (z_np y n && (z_okj k && (z_ins [.instanceMethod y, .initialized y.cls] ps && decide (Jvm.Cond.methodLinkNest (z_cn c) idx y host ∈ z_xw))))
    | 7, [] => decide (y = Jvm.Lib.objectInit) && z_ins [.methodLink (z_cn c) idx y, .instanceMethod y] ps
    | 4, [(_, k)] => decide (y = z_name k ∧ y.name ≠ "<init>") && (z_np y n && (z_okj k && z_ins [.methodLink (z_cn c) idx y, .sameMethod y.cls y.cls y.name y.desc, .superclass (z_cn c) y.cls, .instanceMethod y, .initialized y.cls] ps))
    | 9, [(_, k)] => decide (z_name k = ⟨ow, y.name, y.desc⟩ ∧ y.name ≠ "<init>") && (z_np y n && (z_okj k && z_ins [.methodLink (z_cn c) idx y, .sameMethod y.cls ow y.name y.desc, .superclass (z_cn c) y.cls, .superclass y.cls ow, .instanceMethod (z_name k), .initialized (z_name k).cls] ps))
    | _, _ => false
set_option maxRecDepth 100000 in
theorem z_cS_ok : ∀ q ∈ z_cS, z_okS q = true := by decide +kernel
set_option maxRecDepth 100000 in
theorem z_cV0_ok : ∀ q ∈ z_cV0, z_okV q = true := by decide +kernel
set_option maxRecDepth 100000 in
theorem z_cV1_ok : ∀ q ∈ z_cV1, z_okV q = true := by decide +kernel
set_option maxRecDepth 100000 in
theorem z_cV2_ok : ∀ q ∈ z_cV2, z_okV q = true := by decide +kernel
set_option maxRecDepth 100000 in
theorem z_cV3_ok : ∀ q ∈ z_cV3, z_okV q = true := by decide +kernel
set_option maxRecDepth 100000 in
theorem z_cV4_ok : ∀ q ∈ z_cV4, z_okV q = true := by decide +kernel
theorem z_cV_ok : ∀ q ∈ z_cV, z_okV q = true := by
  intro q hq
  simp only [z_cV, List.mem_append] at hq
  rcases hq with h | h | h | h | h
  · exact z_cV0_ok q h
  · exact z_cV1_ok q h
  · exact z_cV2_ok q h
  · exact z_cV3_ok q h
  · exact z_cV4_ok q h
set_option maxRecDepth 100000 in
theorem z_cI_ok : ∀ q ∈ z_cI, z_okI q = true := by decide +kernel
def z_okf (q : (Nat × Nat) × (Nat × List Nat) × (String × String × String × String) × (Nat × Nat)) : Bool := match q with
  | ((c, idx), (k, cis), (ref, decl, name, desc), (p1, p2)) => z_in p1 (.fieldLink (z_cn c) idx ref name desc) && ((decide (ref = decl) || z_in p2 (.sameField ref decl name desc)) &&
      cis.all fun ci => match z_cl[ci]? with | some w => decide (k < w.2.2 ∧ (w.2.1 k).1 = decl ∧ (w.2.1 k).2.1 = name ∧ (w.2.1 k).2.2.1 = desc) | none => false)
set_option maxRecDepth 100000 in
theorem z_fl_ok : ∀ q ∈ z_fl, z_okf q = true := by decide +kernel
/-- a class's own words: its layout, that it can be made; the types of its fields -/
def z_okc (ci : Nat) : Bool := match z_cl[ci]? with
  | some w => decide (w.1 = z_cn ci) && ((List.range w.2.2).all fun k => decide (parseFieldDescriptor (w.2.1 k).2.2.1 = some (z_fty ci k)) && (List.range w.2.2).all fun q => decide (k = q) || decide ((w.2.1 k).2.1 ≠ (w.2.1 q).2.1))
  | none => false
theorem z_okc_all : ∀ ci, ci < 13 → z_okc ci = true := by decide +kernel
set_option maxRecDepth 100000 in
theorem z_lay_all : ∀ w ∈ z_cl, ∀ u ∈ u_ws w.1 w.2.1 w.2.2, u ∈ lw_tbl ∧ goodWord u = true := by decide +kernel
/-- the types of fields that there are -/
def z_tyk : FieldType → Bool
  | .int => true
  | .long => true
  | .boolean => true
  | .object _ => true
  | .array _ => true
  | _ => false
theorem z_tyk_all : ∀ ci, ci < 13 → ∀ k, k < z_nf ci → z_tyk (z_fty ci k) = true := by decide +kernel
def z_okn (q : (Nat × Nat) × Nat × (Nat × Nat × Nat)) : Bool := match q with
  | ((c, idx), ci, (p1, p2, p3)) => decide (ci < 13) && (z_in p1 (.classLink (z_cn c) idx (z_cn ci)) && (z_in p2 (.instantiable (z_cn ci) (z_nf ci)) && z_in p3 (.initialized (z_cn ci))))
set_option maxRecDepth 100000 in
theorem z_nw_ok : ∀ q ∈ z_nw, z_okn q = true := by decide +kernel
def z_oka (q : (Nat × Nat) × Nat × Nat) : Bool := match q with
  | ((c, idx), t, p1) => match t with
    | 2 => z_in p1 (.classLink (z_cn c) idx "DoorBench$Bench")
    | 3 => z_in p1 (.classLink (z_cn c) idx "DoorBench$Way")
    | _ => false
set_option maxRecDepth 100000 in
theorem z_an_ok : ∀ q ∈ z_an, z_oka q = true := by decide +kernel
def z_okg (q : (Nat × Nat) × Nat × (String × String) × String × Nat) : Bool := match q with
  | ((c, idx), k, (name, desc), host, p1) => decide ((k = 1 ∧ name = "CHOOSE" ∧ desc = "[I") ∨ (k = 2 ∧ name = "YES_SETS" ∧ desc = "[J") ∨ (k = 3 ∧ name = "KIND_ABOVE" ∧ desc = "[I")) && (if host = "" then z_in p1 (.fieldLink (z_cn c) idx "DoorBench" name desc) else decide (Jvm.Cond.fieldLinkNest (z_cn c) idx "DoorBench" name desc host ∈ z_xw))
set_option maxRecDepth 100000 in
theorem z_gs_ok : ∀ q ∈ z_gs, z_okg q = true := by decide +kernel
set_option maxRecDepth 100000 in
theorem z_ld_ok : ∀ q ∈ z_ld, z_in q.2.2 (.constant (z_cn q.1.1) q.1.2 q.2.1) = true := by decide +kernel
set_option maxRecDepth 100000 in
theorem z_l2_ok : ∀ q ∈ z_l2, z_in q.2.2 (.constantLong (z_cn q.1.1) q.1.2 q.2.1) = true := by decide +kernel
theorem z_find_mem {α : Type} {l : List ((Nat × Nat) × α)} {c i : Nat} {v : α} (h : z_find l c i = some v) : ((c, i), v) ∈ l := by
  unfold z_find at h
  cases hf : l.find? fun e => e.1.1 == c && e.1.2 == i with
  | none => rw [hf] at h; cases h
  | some q =>
    rw [hf] at h
    cases h
    have h1 := List.find?_some hf
    have h2 := List.mem_of_find?_eq_some hf
    simp only [Bool.and_eq_true, beq_iff_eq] at h1
    obtain ⟨⟨a, b⟩, v⟩ := q
    simp only at h1
    rw [← h1.1, ← h1.2]
    exact h2
theorem z_arr_ok (t : ArrayType) (h : t = .int ∨ t = .long) : Jvm.Cond.arrayClass (newarray.typeOf t) ∈ z_tb := by
  rcases h with rfl | rfl
  · exact z_in_mem (p := 1072) (by decide +kernel)
  · exact z_in_mem (p := 1073) (by decide +kernel)
end
section
/-! one step over the heap: the machine follows the mini-VM -/
def z_cz (e : zE) : Nat := match e with
  | .inl (_, (n, _)) => n
  | .inr (ci, _) => z_nf ci
def z_sz (M : zH) : Nat := (M.map z_cz).sum
theorem z_sz_set : ∀ {M : zH} {a : Nat} {e e' : zE}, M[a]? = some e → z_cz e' = z_cz e → z_sz (M.set a e') = z_sz M
  | [], a, e, e', h, _ => by simp at h
  | x :: M, 0, e, e', h, he => by
    cases h
    show z_cz e' + _ = z_cz x + _
    rw [he]
  | x :: M, a + 1, e, e', h, he => by
    have := z_sz_set (M := M) (a := a) (e := e) (e' := e') h he
    show z_cz x + z_sz (M.set a e') = z_cz x + z_sz M
    rw [this]
theorem z_sz_push (M : zH) (e : zE) : z_sz (M ++ [e]) = z_sz M + z_cz e := by simp [z_sz]
/-- the machine inside method j -/
def z_Cx (G : zG) (p : Program) (s : State) (m : MethodId) (args : Array Value) (meth : Method) (c : Code) (j : Nat) : Prop :=
  p.tables.exec = Jvm.exec ∧ c.code = z_b j ∧ c.maxLocals = z_ml j ∧ s.vm.findClass (z_cn (z_oc j)) = some m.cls ∧ (∀ w ∈ z_tb, w.before args s = true) ∧ (((z_name j).name == "<init>") = true → meth.name = "<init>") ∧ z_K G s
theorem z_at.kept {G : zG} {ad : Nat → Nat} {k : Nat} {e : zE} {H H1 : Heap} (h : z_at G ad k e H) (hq : H1[ad k]? = H[ad k]?) : z_at G ad k e H1 := by
  cases e with
  | inl q => exact ⟨h.1, hq.trans h.2⟩
  | inr q =>
    obtain ⟨r, h1, h2⟩ := h
    exact ⟨r, h1, h2.kept hq⟩
theorem z_at.lt {G : zG} {ad : Nat → Nat} {k : Nat} {e : zE} {H : Heap} (h : z_at G ad k e H) : ad k < H.size := by
  cases e with
  | inl q => exact (Array.getElem?_eq_some_iff.mp h.2).1
  | inr q =>
    obtain ⟨r, h1, cell, h2, -⟩ := h
    exact (Array.getElem?_eq_some_iff.mp h2).1
theorem z_ad_ge {r : Nat → Nat} {base k : Nat} (h : 4 ≤ k) : z_ad r base k = base + (k - 4) := by
  unfold z_ad
  rw [if_neg (by omega)]
theorem z_ad_lt {r : Nat → Nat} {base k : Nat} (h : k < 4) : z_ad r base k = r k := by
  unfold z_ad
  rw [if_pos h]
theorem z_Rl.set {G : zG} {r : Nat → Nat} {base : Nat} {ro : zH} {H0 : Heap} {M : zH} {H H1 : Heap} {locs locs1 : List Loc} (h : z_Rl G r base ro H0 M H locs) {k : Nat} {e' : zE} (hk : 4 ≤ k) (hat : z_at G (z_ad r base) k e' H1) (hz : H1.size = H.size) (hq : ∀ q, q ≠ z_ad r base k → H1[q]? = H[q]?) (hS : va_S (z_A base) H0 H1 locs1) : z_Rl G r base ro H0 (M.set k e') H1 locs1 := by
  obtain ⟨h1, h2, h3, h4, h5, h6⟩ := h
  refine ⟨by rw [hz, List.length_set]; exact h1, by rw [List.length_set]; exact h2, ?_, fun j x hj hx => ?_, hS, h6⟩
  · rw [List.take_set_of_le hk]
    exact h3
  · by_cases hjk : j = k
    · subst hjk
      rw [List.getElem?_set] at hx
      simp only [if_true] at hx
      split at hx
      · cases hx; exact hat
      · cases hx
    · rw [List.getElem?_set_ne (Ne.symm hjk)] at hx
      refine (h4 j x hj hx).kept (hq _ ?_)
      rw [z_ad_ge hj, z_ad_ge hk]
      omega
theorem z_Rl.push {G : zG} {r : Nat → Nat} {base : Nat} {ro : zH} {H0 : Heap} {M : zH} {H H1 : Heap} {locs : List Loc} (h : z_Rl G r base ro H0 M H locs) {e' : zE} (hat : z_at G (z_ad r base) M.length e' H1) (hz : H1.size = H.size + 1) (hq : ∀ q, q < H.size → H1[q]? = H[q]?) : z_Rl G r base ro H0 (M ++ [e']) H1 locs := by
  obtain ⟨h1, h2, h3, h4, h5, h6⟩ := h
  refine ⟨by rw [hz, List.length_append]; simp only [List.length_cons, List.length_nil]; omega, by rw [List.length_append]; omega, ?_, fun j x hj hx => ?_, ⟨Nat.le_trans h5.1 (by omega), fun q g1 g2 => (hq q (Nat.lt_of_lt_of_le g1 h5.1)).trans (h5.2.1 q g1 g2), h5.2.2⟩, h6⟩
  · rw [List.take_append_of_le_length h2]
    exact h3
  · by_cases hl : j < M.length
    · rw [List.getElem?_append_left hl] at hx
      have h7 := h4 j x hj hx
      exact h7.kept (hq _ h7.lt)
    · rw [List.getElem?_append_right (by omega)] at hx
      have hz1 : j - M.length < 1 := (List.getElem?_eq_some_iff.mp hx).1
      rw [show j - M.length = 0 by omega] at hx
      cases hx
      rw [show j = M.length by omega]
      exact hat
theorem z_Rl.next {G : zG} {r : Nat → Nat} {base : Nat} {ro : zH} {H0 : Heap} {M : zH} {H : Heap} {locs : List Loc} (h : z_Rl G r base ro H0 M H locs) : z_ad r base M.length = H.size := by
  obtain ⟨h1, h2, -⟩ := h
  rw [z_ad_ge h2]
  omega
theorem z_A_in {r : Nat → Nat} {base k : Nat} (h : 4 ≤ k) : z_A base (z_ad r base k) := by
  rw [z_ad_ge h]
  exact Nat.le_add_right _ _
/-- what a field's entry says -/
theorem z_fl_use {G : zG} {p : Program} {s : State} {m : MethodId} {args : Array Value} {meth : Method} {c : Code} {j : Nat} (X : z_Cx G p s m args meth c j) {idx ci : Nat} {q : (Nat × List Nat) × (String × String × String × String) × (Nat × Nat)} (h : z_find z_fl (z_oc j) idx = some q) (hci : ci ∈ q.1.2) :
    ∃ (w : vw_C) (ref : String), z_cl[ci]? = some w ∧ q.1.1 < w.2.2 ∧ (∀ u ∈ u_ws w.1 w.2.1 w.2.2, u ∈ z_tb) ∧ (w.2.1 q.1.1).1 = q.2.1.2.1 ∧ (Jvm.Cond.fieldLink (z_cn (z_oc j)) idx ref (w.2.1 q.1.1).2.1 (w.2.1 q.1.1).2.2.1).before args s = true ∧
      (∀ x, s.fieldFound? (w.2.1 q.1.1).1 (w.2.1 q.1.1).2.1 (w.2.1 q.1.1).2.2.1 = some x → s.fieldFound? ref (w.2.1 q.1.1).2.1 (w.2.1 q.1.1).2.2.1 = some x) := by
  obtain ⟨-, -, -, -, hts, -, -⟩ := X
  have h1 := z_fl_ok _ (z_find_mem h)
  obtain ⟨⟨k, cis⟩, ⟨ref, decl, name, desc⟩, ⟨p1, p2⟩⟩ := q
  dsimp only [z_okf] at h1 hci ⊢
  simp only [Bool.and_eq_true, List.all_eq_true, Bool.or_eq_true, decide_eq_true_eq] at h1
  obtain ⟨h1, h2, h3⟩ := h1
  have h4 := h3 ci hci
  cases hw : z_cl[ci]? with
  | none => rw [hw] at h4; cases h4
  | some w =>
    rw [hw] at h4
    simp only [decide_eq_true_eq] at h4
    obtain ⟨h5, h6, h7, h8⟩ := h4
    refine ⟨w, ref, rfl, h5, fun u hu => ?_, h6, ?_, ?_⟩
    · have := z_lay_all w (List.mem_of_getElem? hw) u hu
      exact List.mem_filter.mpr this
    · rw [h7, h8]
      exact hts _ (z_in_mem h1)
    · rw [h6, h7, h8]
      rcases h2 with h2 | h2
      · intro x hx
        rw [h2]
        exact hx
      · exact u_same (hts _ (z_in_mem h2))
theorem z_okc_use {ci : Nat} {w : vw_C} (h : z_cl[ci]? = some w) : w.1 = z_cn ci ∧ (∀ k, k < w.2.2 → parseFieldDescriptor (w.2.1 k).2.2.1 = some (z_fty ci k)) ∧ (∀ a, a < w.2.2 → ∀ b, b < w.2.2 → a ≠ b → (w.2.1 a).2.1 ≠ (w.2.1 b).2.1) := by
  have hl : ci < 13 := (List.getElem?_eq_some_iff.mp h).1
  have h1 := z_okc_all ci hl
  unfold z_okc at h1
  rw [h] at h1
  simp only [Bool.and_eq_true, List.all_eq_true, Bool.or_eq_true, decide_eq_true_eq, List.mem_range] at h1
  obtain ⟨h1, h2⟩ := h1
  exact ⟨h1, fun k hk => (h2 k hk).1, fun a ha b hb hab => ((h2 a ha).2 b hb).resolve_left hab⟩
theorem z_fit_ok {ty : FieldType} {v : Value} (ad : Nat → Nat) (h : z_fit ty v = true) : narrow ty (z_sh ad v) = z_sh ad v ∧ fits ty (z_sh ad v) = true := by
  cases ty <;> cases v <;> first | exact ⟨rfl, rfl⟩ | (simp [z_fit] at h; done) | skip
  rename_i x
  simp only [z_fit, Bool.or_eq_true, beq_iff_eq] at h
  rcases h with rfl | rfl
  · show narrow .boolean (.int 0) = .int 0 ∧ fits .boolean (.int 0) = true
    exact ⟨by decide, by decide⟩
  · show narrow .boolean (.int 1) = .int 1 ∧ fits .boolean (.int 1) = true
    exact ⟨by decide, by decide⟩
theorem z_fs_get {ad : Nat → Nat} {fs : List Value} {k : Nat} {v : Value} (h : fs[k]? = some v) : (fs.map (z_sh ad))[k]? = some (z_sh ad v) := by rw [List.getElem?_map, h]; rfl
theorem z_fs_set {ad : Nat → Nat} (fs : List Value) (k : Nat) (v : Value) : (fs.set k v).map (z_sh ad) = (fs.map (z_sh ad)).set k (z_sh ad v) := by rw [List.map_set]
section ZS2
variable {p : Program} {l : Launch} {e : Env} {R : Room} {s : State} {m : MethodId} {args : Array Value} {below : List Frame} {meth : Method} {c : Code} {H : Heap} {locs : List Loc} {cells slots : Nat} {Q : State → Prop}
variable {G : zG} {r : Nat → Nat} {base : Nat} {ro M : zH} {pc : Nat} {ls : Array Slot} {j : Nat}
/-- a field is read -/
theorem z_getf (X : z_Cx G p s m args meth c j) (hRl : z_Rl G r base ro s.heap M H locs) {idx a ci : Nat} {fs : List Value} {v : Value} {rest : List Value} {q : (Nat × List Nat) × (String × String × String × String) × (Nat × Nat)} (hM : M[a]? = some (.inr (ci, fs))) (hq : z_find z_fl (z_oc j) idx = some q) (hci : ci ∈ q.1.2) (ha : 4 ≤ a) (hv : fs[q.1.1]? = some v) (hdg : decode (z_b j) pc = .ok (.getfield idx, 3))
    (kk : W p l e R s m args below meth c H locs cells slots Q (F0 m (pc + 3) ls (z_sh (z_ad r base) v :: rest))) : W p l e R s m args below meth c H locs cells slots Q (F0 m pc ls (.ref (z_ad r base a) :: rest)) := by
  obtain ⟨w, ref, hw, hk, hin, hd, hlink, hsame⟩ := z_fl_use X hq hci
  obtain ⟨hx, hb, hml, hown, hts, hnm, hK⟩ := X
  obtain ⟨C, T, N⟩ := w
  have hP : va_P (G.1, G.2.1) z_cl [(z_ad r base a, .inr (ci, fs.map (z_sh (z_ad r base))))] H := by
    intro k x hx
    have hz : k < 1 := (List.getElem?_eq_some_iff.mp hx).1
    rw [show k = 0 by omega] at hx
    cases hx
    exact hRl.2.2.2.1 a _ ha hM
  have hKa : va_K (G.1, G.2.1) z_cl [] s := ⟨hK.1, fun k x h => by simp at h⟩
  exact va_get (ci := ci) hx hb hts hin hown hKa hP 0 rfl hw q.1.1 hk hlink hsame (z_fs_get hv) hdg kk
/-- a field is written -/
theorem z_putf (X : z_Cx G p s m args meth c j) (hRl : z_Rl G r base ro s.heap M H locs) {idx a ci : Nat} {fs : List Value} {v : Value} {rest : List Value} {q : (Nat × List Nat) × (String × String × String × String) × (Nat × Nat)} (hM : M[a]? = some (.inr (ci, fs))) (hq : z_find z_fl (z_oc j) idx = some q) (hci : ci ∈ q.1.2) (ha : 4 ≤ a) (hfit : z_fit (z_fty ci q.1.1) v = true) (hl : q.1.1 < fs.length)
    (hfin : ((z_cl[ci]?).map fun w => (w.2.1 q.1.1).2.2.2) = some false ∨ (((z_name j).name == "<init>") = true ∧ q.2.1.2.1 = z_cn (z_oc j))) (hdg : decode (z_b j) pc = .ok (.putfield idx, 3))
    (kk : ∀ H1 locs1, z_Rl G r base ro s.heap (M.set a (.inr (ci, fs.set q.1.1 v))) H1 locs1 → W p l e R s m args below meth c H1 locs1 cells slots Q (F0 m (pc + 3) ls rest)) : W p l e R s m args below meth c H locs cells slots Q (F0 m pc ls (z_sh (z_ad r base) v :: .ref (z_ad r base a) :: rest)) := by
  obtain ⟨w, ref, hw, hk, hin, hd, hlink, hsame⟩ := z_fl_use X hq hci
  obtain ⟨hx, hb, hml, hown, hts, hnm, hK⟩ := X
  obtain ⟨-, hty, hne⟩ := z_okc_use hw
  obtain ⟨C, T, N⟩ := w
  have hKa : va_K (G.1, G.2.1) z_cl [] s := ⟨hK.1, fun k x h => by simp at h⟩
  have hap := va_apart (own := z_cn (z_oc j)) hts hin (z_fty ci) hty hne hKa hw
  obtain ⟨r', h1, cell, q1, q2, q3, q4⟩ := hRl.2.2.2.1 a _ ha hM
  have hr : r' = (C, T, N) := Option.some.inj (h1.symm.trans hw)
  subst hr
  obtain ⟨hn, hf⟩ := z_fit_ok (z_ad r base) hfit
  obtain ⟨hS, hfc, kC, hkC, hkind⟩ := hK.1 ci _ hw
  obtain ⟨cf, kf, fi, f, hi, hsl⟩ := hS q.1.1 hk
  have hl' : q.1.1 < (fs.map (z_sh (z_ad r base))).length := by rw [List.length_map]; exact hl
  have hlay := hts _ (hin _ (u_in_lay hk))
  have hst := (u_facts hfc hkC (u_lays hts hin hk) hi).1
  have fin : ∀ H' : Heap, H'[z_ad r base a]? = some (cell.setSlot f.slot (z_sh (z_ad r base) v)) → H'.size = H.size → (∀ q, q ≠ z_ad r base a → H'[q]? = H[q]?) → W p l e R s m args below meth c H' (locs ++ [⟨z_ad r base a, f.slot⟩]) cells slots Q (F0 m (pc + 3) ls rest) := by
    intro H' e1 e2 e3
    rw [hsl] at e1 ⊢
    refine kk H' _ (hRl.set ha ?_ e2 e3 (hRl.2.2.2.2.1.put e2 e3 (z_A_in ha)))
    refine ⟨_, hw, ?_⟩
    rw [z_fs_set]
    exact t_OB.to (V := updV (vp_V (fs.map (z_sh (z_ad r base)))) q.1.1 (z_sh (z_ad r base) v)) ⟨_, e1, q2, q3, t_set q4 hap hk _⟩ (fun i _ => vp_updV_set hl' _ i)
  by_cases hff : (T q.1.1).2.2.2 = true
  · rcases hfin with hfin | hfin
    · rw [hw] at hfin
      have hz : (T q.1.1).2.2.2 = false := Option.some.inj hfin
      rw [hz] at hff
      cases hff
    · unfold u_lay at hlay
      rw [if_pos hff] at hlay
      have hin2 : meth.name = "<init>" := hnm hfin.1
      have hcf : m.cls = cf := by
        obtain ⟨_, _, c', _, _, _, -, -, hf', -, -, -, hown2, -⟩ := Cond.laysFinal_spec hlay
        have e1 : c' = cf := by have := hi.symm.trans hf'; simp at this; exact this.1.symm
        have hdo : (T q.1.1).1 = z_cn (z_oc j) := hd.trans hfin.2
        rw [hdo] at hown2
        rw [← e1]; exact Option.some.inj (hown.symm.trans hown2)
      have h6 := u_fits hfc hkC hkind (Or.inr hlay) hi (hty _ hk) hn hf
      exact W.putFinK hx hb hown hlink (hsame _ hi) hst hcf hin2 (by rw [q2]; exact h6) q1 q3 (by rw [hsl]; exact k2_hasslot (q4 _ hk)) rfl rfl hdg fin
  · unfold u_lay at hlay
    rw [if_neg hff] at hlay
    have h6 := u_store hfc hkC hkind hlay hi (hty _ hk) hn hf
    exact W.putK hx hb (f := f) ⟨hown, hlink, ⟨_, _, _, hsame _ hi⟩, hst⟩ (by rw [q2]; exact h6) q1 q3 (by rw [hsl]; exact k2_hasslot (q4 _ hk)) rfl rfl hdg fin
theorem z_newo (X : z_Cx G p s m args meth c j) (hRl : z_Rl G r base ro s.heap M H locs) {idx : Nat} {rest : List Value} {q : Nat × (Nat × Nat × Nat)} (hq : z_find z_nw (z_oc j) idx = some q) (hdg : decode (z_b j) pc = .ok (.new idx, 3)) (hc : cells + 1 ≤ R.cells) (hs : slots + z_nf q.1 ≤ R.slots)
    (kk : ∀ H1, z_Rl G r base ro s.heap (M ++ [.inr (q.1, z_blank q.1)]) H1 locs → W p l e R s m args below meth c H1 locs (cells + 1) (slots + z_nf q.1) Q (F0 m (pc + 3) ls (.ref (z_ad r base M.length) :: rest))) : W p l e R s m args below meth c H locs cells slots Q (F0 m pc ls rest) := by
  obtain ⟨hx, hb, hml, hown, hts, hnm, hK⟩ := X
  have h1 := z_nw_ok _ (z_find_mem hq)
  obtain ⟨ci, p1, p2, p3⟩ := q
  dsimp only [z_okn] at h1 hs kk
  simp only [Bool.and_eq_true, decide_eq_true_eq] at h1
  obtain ⟨h0, h1, h2, h3⟩ := h1
  cases hw : z_cl[ci]? with
  | none => exact absurd h0 (Nat.not_lt.mpr (List.getElem?_eq_none_iff.mp hw))
  | some w =>
    obtain ⟨hcn, hty, hne⟩ := z_okc_use hw
    obtain ⟨C, T, N⟩ := w
    have hN : z_nf ci = N := by unfold z_nf; rw [hw]; rfl
    rw [hN] at hs kk h2
    have hin : ∀ u ∈ u_ws C T N, u ∈ z_tb := fun u hu => List.mem_filter.mpr (z_lay_all _ (List.mem_of_getElem? hw) u hu)
    have hKn := hK.1 ci _ hw
    have hcn' : C = z_cn ci := hcn
    rw [← hcn'] at h1 h2 h3
    have hnx := hRl.next
    refine W.newcK hx hb hown (hts _ (z_in_mem h1)) (hts _ (z_in_mem h2)) (hts _ (z_in_mem h3)) rfl hdg hc hs hKn.2.1 hnx.symm fun H1 kC hkC e1 z1 o1 => ?_
    refine kk H1 (hRl.push ⟨_, hw, ?_⟩ (by rw [z1, hnx]) (fun q hq' => o1 q (by rw [hnx]; exact hq')))
    refine (u_born (z_fty ci) hts hin hKn hkC e1 hty).to (fun k hk => ?_)
    show defaultValue (z_fty ci k) = ((z_blank ci).map (z_sh (z_ad r base))).getD k .null
    have hb2 : (z_blank ci)[k]? = some (z_dv (z_fty ci k)) := by
      unfold z_blank
      rw [hN]
      simp only [List.getElem?_map]
      rw [List.getElem?_range hk]
      rfl
    rw [List.getD_eq_getElem?_getD, z_fs_get hb2]
    have hok : z_tyk (z_fty ci k) = true := by
      have hl : ci < 13 := (List.getElem?_eq_some_iff.mp hw).1
      have h9 := z_tyk_all ci hl k (by rw [hN]; exact hk)
      exact h9
    revert hok
    cases z_fty ci k <;> intro hok <;> first | rfl | (simp [z_tyk] at hok; done)
end ZS2
end
section
/-! one step over the heap: arrays, constants, statics -/
theorem z_val_upd {ad : Nat → Nat} {n k : Nat} {f : Nat → Int32} {x : Int32} : updV (z_val ad (n, .inl f)) k (.int x) = z_val ad (n, .inl (upd f k x)) := by
  funext q
  by_cases hq : q = k
  · subst hq; simp [updV, upd, z_val]
  · simp [updV, upd, z_val, hq]
theorem z_val_updL {ad : Nat → Nat} {n k : Nat} {f : Nat → Int64} {x : Int64} : updV (z_val ad (n, .inr (.inl f))) k (.long x) = z_val ad (n, .inr (.inl (z_updL f k x))) := by
  funext q
  by_cases hq : q = k
  · subst hq; simp [updV, z_updL, z_val]
  · simp [updV, z_updL, z_val, hq]
theorem z_val_updR {ad : Nat → Nat} {n k : Nat} {f : Nat → Option Nat} {x : Option Nat} : updV (z_val ad (n, .inr (.inr f))) k (va_rf (x.map ad)) = z_val ad (n, .inr (.inr (z_updR f k x))) := by
  funext q
  by_cases hq : q = k
  · subst hq; simp [updV, z_updR, z_val]
  · simp [updV, z_updR, z_val, hq]
theorem z_sh_rf (ad : Nat → Nat) (o : Option Nat) : z_sh ad (va_rf o) = va_rf (o.map ad) := by cases o <;> rfl
theorem z_ro_get {ro M : zH} {a : Nat} {e : zE} (h : M.take 4 = ro) (ha : a < 4) (hM : M[a]? = some e) : ro[a]? = some e := by
  rw [← h, List.getElem?_take]
  rw [if_pos ha]
  exact hM
section ZS2b
variable {p : Program} {l : Launch} {e : Env} {R : Room} {s : State} {m : MethodId} {args : Array Value} {below : List Frame} {meth : Method} {c : Code} {H : Heap} {locs : List Loc} {cells slots : Nat} {Q : State → Prop}
variable {G : zG} {r : Nat → Nat} {base : Nat} {ro M : zH} {pc : Nat} {ls : Array Slot} {j : Nat}
theorem z_iald (X : z_Cx G p s m args meth c j) (hR : z_R r (z_A base) ro s s.heap) (hRl : z_Rl G r base ro s.heap M H locs) {a n : Nat} {f : Nat → Int32} {i : Int32} {rest : List Value} (hM : M[a]? = some (.inl (0, n, .inl f))) (hi : ¬ (i < 0 ∨ n ≤ i.toNatClampNeg)) (hdg : decode (z_b j) pc = .ok (.iaload, 1))
    (kk : W p l e R s m args below meth c H locs cells slots Q (F0 m (pc + 1) ls (.int (f i.toNatClampNeg) :: rest))) : W p l e R s m args below meth c H locs cells slots Q (F0 m pc ls (.int i :: .ref (z_ad r base a) :: rest)) := by
  obtain ⟨hx, hb, hml, hown, hts, hnm, hK⟩ := X
  have hlt : i.toNatClampNeg < n := Nat.not_le.mp fun q => hi (Or.inr q)
  by_cases ha : a < 4
  · obtain ⟨-, hT⟩ := hR.2.2.2 a _ (z_ro_get hRl.2.2.1 ha hM)
    rw [z_ad_lt ha]
    exact va_ti hx hb hT hRl.2.2.2.2.1 hi rfl hdg kk
  · obtain ⟨ht, hc⟩ := hRl.2.2.2.1 a _ (by omega) hM
    exact W.iald (v := .int (f i.toNatClampNeg)) hx hb hc ((hK.2.1 0 ht).1 n _) (fun q => by cases q) (by show ¬ (i < 0 ∨ (arrV _ _ _).slots.size ≤ _); rw [arrV_size]; exact hi) (by show (arrV _ _ _).slots[_]? = _; rw [arrV_read _ _ hlt]; rfl) rfl rfl hdg kk
theorem z_lald (X : z_Cx G p s m args meth c j) (hR : z_R r (z_A base) ro s s.heap) (hRl : z_Rl G r base ro s.heap M H locs) {a n : Nat} {f : Nat → Int64} {i : Int32} {rest : List Value} (hM : M[a]? = some (.inl (1, n, .inr (.inl f)))) (hi : ¬ (i < 0 ∨ n ≤ i.toNatClampNeg)) (hdg : decode (z_b j) pc = .ok (.laload, 1))
    (kk : W p l e R s m args below meth c H locs cells slots Q (F0 m (pc + 1) ls (.long (f i.toNatClampNeg) :: rest))) : W p l e R s m args below meth c H locs cells slots Q (F0 m pc ls (.int i :: .ref (z_ad r base a) :: rest)) := by
  obtain ⟨hx, hb, hml, hown, hts, hnm, hK⟩ := X
  have hlt : i.toNatClampNeg < n := Nat.not_le.mp fun q => hi (Or.inr q)
  by_cases ha : a < 4
  · obtain ⟨-, hT⟩ := hR.2.2.2 a _ (z_ro_get hRl.2.2.1 ha hM)
    rw [z_ad_lt ha]
    exact va_tl hx hb hT hRl.2.2.2.2.1 hi rfl hdg kk
  · obtain ⟨ht, hc⟩ := hRl.2.2.2.1 a _ (by omega) hM
    exact W.lald (v := .long (f i.toNatClampNeg)) hx hb hc ((hK.2.1 1 ht).1 n _) (fun q => by cases q) (by show ¬ (i < 0 ∨ (arrV _ _ _).slots.size ≤ _); rw [arrV_size]; exact hi) (by show (arrV _ _ _).slots[_]? = _; rw [arrV_read _ _ hlt]; rfl) rfl rfl hdg kk
theorem z_aald (X : z_Cx G p s m args meth c j) (hRl : z_Rl G r base ro s.heap M H locs) {a t n : Nat} {f : Nat → Option Nat} {i : Int32} {rest : List Value} (hM : M[a]? = some (.inl (t, n, .inr (.inr f)))) (hi : ¬ (i < 0 ∨ n ≤ i.toNatClampNeg)) (ha : 4 ≤ a) (ht2 : 2 ≤ t) (hdg : decode (z_b j) pc = .ok (.aaload, 1))
    (kk : W p l e R s m args below meth c H locs cells slots Q (F0 m (pc + 1) ls (va_rf ((f i.toNatClampNeg).map (z_ad r base)) :: rest))) : W p l e R s m args below meth c H locs cells slots Q (F0 m pc ls (.int i :: .ref (z_ad r base a) :: rest)) := by
  obtain ⟨hx, hb, hml, hown, hts, hnm, hK⟩ := X
  have hlt : i.toNatClampNeg < n := Nat.not_le.mp fun q => hi (Or.inr q)
  obtain ⟨ht, hc⟩ := hRl.2.2.2.1 a _ ha hM
  have href : (z_ty t).isReference = true := by
    match t, ht2 with
    | 2, _ => rfl
    | t + 3, _ => rfl
  exact W.aald (v := va_rf ((f i.toNatClampNeg).map (z_ad r base))) (ty := z_ty t) hx hb hc ((hK.2.1 t ht).1 n _) href (fun q => by cases q) (by show ¬ (i < 0 ∨ (arrV _ _ _).slots.size ≤ _); rw [arrV_size]; exact hi) (by show (arrV _ _ _).slots[_]? = _; rw [arrV_read _ _ hlt]; rfl) rfl rfl hdg kk
theorem z_alen (X : z_Cx G p s m args meth c j) (hR : z_R r (z_A base) ro s s.heap) (hRl : z_Rl G r base ro s.heap M H locs) {a t n : Nat} {x} {rest : List Value} (hM : M[a]? = some (.inl (t, n, x))) (hdg : decode (z_b j) pc = .ok (.arraylength, 1))
    (kk : W p l e R s m args below meth c H locs cells slots Q (F0 m (pc + 1) ls (.int (Int32.ofNat n) :: rest))) : W p l e R s m args below meth c H locs cells slots Q (F0 m pc ls (.ref (z_ad r base a) :: rest)) := by
  obtain ⟨hx, hb, hml, hown, hts, hnm, hK⟩ := X
  by_cases ha : a < 4
  · have hro := hR.2.2.2 a _ (z_ro_get hRl.2.2.1 ha hM)
    rw [z_ad_lt ha]
    match x, hro with
    | .inl f, ⟨_, hT⟩ => exact va_tlen hx hb hT hRl.2.2.2.2.1 rfl hdg kk
    | .inr (.inl f), ⟨_, hT⟩ => exact va_tlen hx hb hT hRl.2.2.2.2.1 rfl hdg kk
    | .inr (.inr f), h => exact h.elim
  · obtain ⟨ht, hc⟩ := hRl.2.2.2.1 a _ (by omega) hM
    exact W.alen (n := Int32.ofNat n) hx hb hc ((hK.2.1 t ht).1 n _) (by rw [arrV_size] <;> rfl) rfl rfl hdg kk
theorem z_iast (X : z_Cx G p s m args meth c j) (hRl : z_Rl G r base ro s.heap M H locs) {a n : Nat} {f : Nat → Int32} {i x : Int32} {rest : List Value} (hM : M[a]? = some (.inl (0, n, .inl f))) (hi : ¬ (i < 0 ∨ n ≤ i.toNatClampNeg)) (ha : 4 ≤ a) (hdg : decode (z_b j) pc = .ok (.iastore, 1))
    (kk : ∀ H1 locs1, z_Rl G r base ro s.heap (M.set a (.inl (0, n, .inl (upd f i.toNatClampNeg x)))) H1 locs1 → W p l e R s m args below meth c H1 locs1 cells slots Q (F0 m (pc + 1) ls rest)) : W p l e R s m args below meth c H locs cells slots Q (F0 m pc ls (.int x :: .int i :: .ref (z_ad r base a) :: rest)) := by
  obtain ⟨hx, hb, hml, hown, hts, hnm, hK⟩ := X
  obtain ⟨ht, hc⟩ := hRl.2.2.2.1 a _ ha hM
  refine W.iast hx hb hc ((hK.2.1 0 ht).1 n _) (fun q => by cases q) (by show ¬ (i < 0 ∨ (arrV _ _ _).slots.size ≤ _); rw [arrV_size]; exact hi) rfl rfl hdg fun H1 e1 z oq => ?_
  refine kk H1 _ (hRl.set ha ⟨ht, ?_⟩ z oq (hRl.2.2.2.2.1.put z oq (z_A_in ha)))
  rw [e1, arrV_store, z_val_upd]
theorem z_last (X : z_Cx G p s m args meth c j) (hRl : z_Rl G r base ro s.heap M H locs) {a n : Nat} {f : Nat → Int64} {i : Int32} {x : Int64} {rest : List Value} (hM : M[a]? = some (.inl (1, n, .inr (.inl f)))) (hi : ¬ (i < 0 ∨ n ≤ i.toNatClampNeg)) (ha : 4 ≤ a) (hdg : decode (z_b j) pc = .ok (.lastore, 1))
    (kk : ∀ H1 locs1, z_Rl G r base ro s.heap (M.set a (.inl (1, n, .inr (.inl (z_updL f i.toNatClampNeg x))))) H1 locs1 → W p l e R s m args below meth c H1 locs1 cells slots Q (F0 m (pc + 1) ls rest)) : W p l e R s m args below meth c H locs cells slots Q (F0 m pc ls (.long x :: .int i :: .ref (z_ad r base a) :: rest)) := by
  obtain ⟨hx, hb, hml, hown, hts, hnm, hK⟩ := X
  obtain ⟨ht, hc⟩ := hRl.2.2.2.1 a _ ha hM
  refine W.last hx hb hc ((hK.2.1 1 ht).1 n _) (fun q => by cases q) (by show ¬ (i < 0 ∨ (arrV _ _ _).slots.size ≤ _); rw [arrV_size]; exact hi) rfl rfl hdg fun H1 e1 z oq => ?_
  refine kk H1 _ (hRl.set ha ⟨ht, ?_⟩ z oq (hRl.2.2.2.2.1.put z oq (z_A_in ha)))
  rw [e1, arrV_store, z_val_updL]
theorem z_ty_obj {t : Nat} (h : 2 ≤ t) : z_ty t = .object (if t = 2 then "DoorBench$Bench" else "DoorBench$Way") := by
  match t, h with
  | 2, _ => rfl
  | t + 3, _ => rfl
theorem z_aastN (X : z_Cx G p s m args meth c j) (hRl : z_Rl G r base ro s.heap M H locs) {a t n : Nat} {f : Nat → Option Nat} {i : Int32} {rest : List Value} (hM : M[a]? = some (.inl (t, n, .inr (.inr f)))) (hi : ¬ (i < 0 ∨ n ≤ i.toNatClampNeg)) (ha : 4 ≤ a) (ht2 : 2 ≤ t) (hdg : decode (z_b j) pc = .ok (.aastore, 1))
    (kk : ∀ H1 locs1, z_Rl G r base ro s.heap (M.set a (.inl (t, n, .inr (.inr (z_updR f i.toNatClampNeg none))))) H1 locs1 → W p l e R s m args below meth c H1 locs1 cells slots Q (F0 m (pc + 1) ls rest)) : W p l e R s m args below meth c H locs cells slots Q (F0 m pc ls (.null :: .int i :: .ref (z_ad r base a) :: rest)) := by
  obtain ⟨hx, hb, hml, hown, hts, hnm, hK⟩ := X
  obtain ⟨ht, hc⟩ := hRl.2.2.2.1 a _ ha hM
  refine va_WaastN (C := if t = 2 then "DoorBench$Bench" else "DoorBench$Way") hx hb hc (by rw [← z_ty_obj ht2]; exact (hK.2.1 t ht).1 n _) (fun h => by cases h) (by show ¬ (i < 0 ∨ (arrV _ _ _).slots.size ≤ _); rw [arrV_size]; exact hi) rfl rfl hdg fun H1 e1 z oq => ?_
  refine kk H1 _ (hRl.set ha ⟨ht, ?_⟩ z oq (hRl.2.2.2.2.1.put z oq (z_A_in ha)))
  rw [e1, arrV_store, show (Value.null) = va_rf ((none : Option Nat).map (z_ad r base)) from rfl, z_val_updR]
theorem z_cast_ok : ∀ ci, ci < 12 → 5 ≤ ci → Jvm.Cond.castable (z_cn ci) "DoorBench$Way" ∈ z_xw := by decide +kernel
theorem z_aast (X : z_Cx G p s m args meth c j) (hRl : z_Rl G r base ro s.heap M H locs) {a t n v ci : Nat} {fs : List Value} {f : Nat → Option Nat} {i : Int32} {rest : List Value} (hM : M[a]? = some (.inl (t, n, .inr (.inr f)))) (hV : M[v]? = some (.inr (ci, fs))) (hi : ¬ (i < 0 ∨ n ≤ i.toNatClampNeg)) (ha : 4 ≤ a) (hv4 : 4 ≤ v) (htc : (t = 2 ∧ ci = 3) ∨ (t = 3 ∧ 4 ≤ ci ∧ ci ≤ 11)) (hdg : decode (z_b j) pc = .ok (.aastore, 1))
    (kk : ∀ H1 locs1, z_Rl G r base ro s.heap (M.set a (.inl (t, n, .inr (.inr (z_updR f i.toNatClampNeg (some v)))))) H1 locs1 → W p l e R s m args below meth c H1 locs1 cells slots Q (F0 m (pc + 1) ls rest)) : W p l e R s m args below meth c H locs cells slots Q (F0 m pc ls (.ref (z_ad r base v) :: .int i :: .ref (z_ad r base a) :: rest)) := by
  obtain ⟨hx, hb, hml, hown, hts, hnm, hK⟩ := X
  have hlt : i.toNatClampNeg < n := Nat.not_le.mp fun q => hi (Or.inr q)
  have h0 : ¬ i < 0 := fun q => hi (Or.inl q)
  obtain ⟨ht, hc⟩ := hRl.2.2.2.1 a _ ha hM
  obtain ⟨w, hw, cellV, g1, g2, g3, -⟩ := hRl.2.2.2.1 v _ hv4 hV
  have hcls := (hK.1 ci w hw).2
  have hRA := (hK.2.1 t ht).2
  have hcn : w.1 = z_cn ci := (z_okc_use hw).1
  have ht2 : 2 ≤ t := by omega
  have key : ∃ (kA kE kC : Class) (comp : ClassId), s.vm.classes[G.2.2 t]? = some kA ∧ kA.kind = .array comp (z_ty t) ∧ s.vm.classes[comp]? = some kE ∧ s.vm.classes[cellV.cls]? = some kC ∧ s.vm.assignable cellV.cls comp = true := by
    rw [z_ty_obj ht2] at hRA ⊢
    obtain ⟨kA, comp, k1, k2, k3, -⟩ := hRA
    obtain ⟨kE, hkE, -⟩ := Vm.findClass_spec k3
    obtain ⟨kC, hkC, -⟩ := id hcls.2
    refine ⟨kA, kE, kC, comp, k1, k2, hkE, by rw [g2]; exact hkC, ?_⟩
    rw [g2]
    by_cases hsame : w.1 = (if t = 2 then "DoorBench$Bench" else "DoorBench$Way")
    · have h5 := hcls.1
      rw [hsame] at h5
      cases k3.symm.trans h5
      exact va_asg _ _
    · have h6 : t = 3 ∧ 5 ≤ ci ∧ ci ≤ 11 := by
        rcases htc with ⟨rfl, rfl⟩ | ⟨rfl, h7, h8⟩
        · exact absurd (by rw [hcn]; decide +kernel) hsame
        · refine ⟨rfl, ?_, h8⟩
          by_cases h9 : ci = 4
          · subst h9
            exact absurd (by rw [hcn]; decide +kernel) hsame
          · omega
      obtain ⟨rfl, h7, h8⟩ := h6
      obtain ⟨c0, t1, f1, f2, f3⟩ := Cond.castable_spec (va_Nw.use (A := args) rfl (hK.2.2.1 _ (z_cast_ok ci (by omega) h7)))
      have h5 := hcls.1
      rw [hcn] at h5
      cases h5.symm.trans f1
      cases k3.symm.trans f2
      exact f3
  obtain ⟨kA, kE, kC, comp, k1, k2, k3, k4, k5⟩ := key
  have href : (z_ty t).isReference = true := by rw [z_ty_obj ht2]; rfl
  refine W.aast hx hb hc (fun q h => by cases h) (fun h => by cases h) k1 k2 href k3 ⟨h0, by show _ < (arrV _ _ _).slots.size; rw [arrV_size]; exact hlt⟩ g1 (fun q h => by rw [g3] at h; cases h) k4 k5 rfl rfl hdg fun H1 e1 z oq => ?_
  refine kk H1 _ (hRl.set ha ⟨ht, ?_⟩ z oq (hRl.2.2.2.2.1.put z oq (z_A_in ha)))
  rw [e1, arrV_store, show (Value.ref (z_ad r base v)) = va_rf ((some v : Option Nat).map (z_ad r base)) from rfl, z_val_updR]
theorem z_newi (X : z_Cx G p s m args meth c j) (hRl : z_Rl G r base ro s.heap M H locs) {n : Int32} {rest : List Value} (hn : ¬ (n < 0 ∨ 1000000 < n.toNatClampNeg)) (hdg : decode (z_b j) pc = .ok (.newarray .int, 2)) (hc : cells + 1 ≤ R.cells) (hs : slots + n.toNatClampNeg ≤ R.slots)
    (kk : ∀ H1, z_Rl G r base ro s.heap (M ++ [.inl (0, n.toNatClampNeg, .inl fun _ => 0)]) H1 locs → W p l e R s m args below meth c H1 locs (cells + 1) (slots + n.toNatClampNeg) Q (F0 m (pc + 2) ls (.ref (z_ad r base M.length) :: rest))) : W p l e R s m args below meth c H locs cells slots Q (F0 m pc ls (.int n :: rest)) := by
  obtain ⟨hx, hb, hml, hown, hts, hnm, hK⟩ := X
  obtain ⟨h1, h2⟩ := not_or.mp hn
  have hnx := hRl.next
  refine va_newaK (atype := .int) hx hb (hts _ (z_arr_ok .int (Or.inl rfl))) rfl hdg rfl h1 rfl (by show n.toNatClampNeg * 4 ≤ _; omega) hc hs hnx.symm fun H1 cA e1 z1 o1 hAr hNm => ?_
  refine kk H1 (hRl.push ⟨(by decide : 0 < 4), ?_⟩ (by rw [z1, hnx]) (fun q hq' => o1 q (by rw [hnx]; exact hq')))
  have hcA : cA = G.2.2 0 := Option.some.inj (hNm.symm.trans (hK.2.1 0 (by decide)).2)
  rw [← hcA]
  exact e1
theorem z_newl (X : z_Cx G p s m args meth c j) (hRl : z_Rl G r base ro s.heap M H locs) {n : Int32} {rest : List Value} (hn : ¬ (n < 0 ∨ 1000000 < n.toNatClampNeg)) (hdg : decode (z_b j) pc = .ok (.newarray .long, 2)) (hc : cells + 1 ≤ R.cells) (hs : slots + n.toNatClampNeg ≤ R.slots)
    (kk : ∀ H1, z_Rl G r base ro s.heap (M ++ [.inl (1, n.toNatClampNeg, .inr (.inl fun _ => 0))]) H1 locs → W p l e R s m args below meth c H1 locs (cells + 1) (slots + n.toNatClampNeg) Q (F0 m (pc + 2) ls (.ref (z_ad r base M.length) :: rest))) : W p l e R s m args below meth c H locs cells slots Q (F0 m pc ls (.int n :: rest)) := by
  obtain ⟨hx, hb, hml, hown, hts, hnm, hK⟩ := X
  obtain ⟨h1, h2⟩ := not_or.mp hn
  have hnx := hRl.next
  refine va_newaK (atype := .long) hx hb (hts _ (z_arr_ok .long (Or.inr rfl))) rfl hdg rfl h1 rfl (by show n.toNatClampNeg * 8 ≤ _; omega) hc hs hnx.symm fun H1 cA e1 z1 o1 hAr hNm => ?_
  refine kk H1 (hRl.push ⟨(by decide : 1 < 4), ?_⟩ (by rw [z1, hnx]) (fun q hq' => o1 q (by rw [hnx]; exact hq')))
  have hcA : cA = G.2.2 1 := Option.some.inj (hNm.symm.trans (hK.2.1 1 (by decide)).2)
  rw [← hcA]
  exact e1
theorem z_newr (X : z_Cx G p s m args meth c j) (hRl : z_Rl G r base ro s.heap M H locs) {idx : Nat} {q : Nat × Nat} {n : Int32} {rest : List Value} (hq : z_find z_an (z_oc j) idx = some q) (hn : ¬ (n < 0 ∨ 1000000 < n.toNatClampNeg)) (hdg : decode (z_b j) pc = .ok (.anewarray idx, 3)) (hc : cells + 1 ≤ R.cells) (hs : slots + n.toNatClampNeg ≤ R.slots)
    (kk : ∀ H1, z_Rl G r base ro s.heap (M ++ [.inl (q.1, n.toNatClampNeg, .inr (.inr fun _ => none))]) H1 locs → W p l e R s m args below meth c H1 locs (cells + 1) (slots + n.toNatClampNeg) Q (F0 m (pc + 3) ls (.ref (z_ad r base M.length) :: rest))) : W p l e R s m args below meth c H locs cells slots Q (F0 m pc ls (.int n :: rest)) := by
  obtain ⟨hx, hb, hml, hown, hts, hnm, hK⟩ := X
  obtain ⟨h1, h2⟩ := not_or.mp hn
  have hnx := hRl.next
  have h3 := z_an_ok _ (z_find_mem hq)
  obtain ⟨t, p1⟩ := q
  have key : ∃ C, t < 4 ∧ z_ty t = .object C ∧ Jvm.Cond.classLink (z_cn (z_oc j)) idx C ∈ z_tb ∧ va_AO C s := by
    match t, h3 with
    | 2, h3 => exact ⟨_, by decide, rfl, z_in_mem h3, hK.2.2.2.1⟩
    | 3, h3 => exact ⟨_, by decide, rfl, z_in_mem h3, hK.2.2.2.2⟩
  obtain ⟨C, ht, hty, hcl, hAO⟩ := key
  have hRA := (hK.2.1 t ht).2
  rw [hty] at hRA
  obtain ⟨-, -, -, -, -, hRA⟩ := hRA
  refine W.anew hx hb hown (hts _ hcl) (va_AO.use hAO) rfl hdg rfl h1 (by omega) hc hs fun cA kA comp f1 f2 f3 f4 => ?_
  rw [← hnx]
  refine kk _ (hRl.push ⟨ht, ?_⟩ (by rw [Array.size_push]) (fun q hq' => by rw [Array.getElem?_push, if_neg (Nat.ne_of_lt hq')]))
  have hcA : cA = G.2.2 t := Option.some.inj (f1.symm.trans hRA)
  rw [hnx, Array.getElem?_push_size, ← hcA, arrV_new]
  rfl
theorem z_gets (X : z_Cx G p s m args meth c j) (hR : z_R r (z_A base) ro s s.heap) (hRl : z_Rl G r base ro s.heap M H locs) {idx : Nat} {q : Nat × (String × String) × String × Nat} {rest : List Value} (hq : z_find z_gs (z_oc j) idx = some q) (hdg : decode (z_b j) pc = .ok (.getstatic idx, 3))
    (kk : W p l e R s m args below meth c H locs cells slots Q (F0 m (pc + 3) ls (.ref (z_ad r base q.1) :: rest))) : W p l e R s m args below meth c H locs cells slots Q (F0 m pc ls rest) := by
  obtain ⟨hx, hb, hml, hown, hts, hnm, hK⟩ := X
  have h3 := z_gs_ok _ (z_find_mem hq)
  obtain ⟨k, ⟨name, desc⟩, host, p1⟩ := q
  dsimp only [z_okg] at h3 kk
  simp only [Bool.and_eq_true, decide_eq_true_eq] at h3
  obtain ⟨h3, h4⟩ := h3
  have hZ : k < 4 ∧ va_Z "DoorBench" name desc (.ref (r k)) (z_A base) s s.heap := by
    rcases h3 with ⟨rfl, rfl, rfl⟩ | ⟨rfl, rfl, rfl⟩ | ⟨rfl, rfl, rfl⟩
    · exact ⟨by decide, hR.1⟩
    · exact ⟨by decide, hR.2.1⟩
    · exact ⟨by decide, hR.2.2.1⟩
  rw [z_ad_lt hZ.1] at kk
  by_cases hh : host = ""
  · rw [if_pos hh] at h4
    exact va_gets hx hb hZ.2 hRl.2.2.2.2.1 hown (hts _ (z_in_mem h4)) (fun _ h => h) hdg kk
  · rw [if_neg hh, decide_eq_true_eq] at h4
    exact va_getsN hx hb hZ.2 hRl.2.2.2.2.1 hown (va_Nw.use rfl (hK.2.2.1 _ h4)) (fun _ h => h) hdg kk
end ZS2b
end
section
/-! steps together; how a call's start and end are told -/
section ZST
variable {p : Program} {l : Launch} {e : Env} {R : Room} {s : State} {m : MethodId} {args : Array Value} {below : List Frame} {meth : Method} {c : Code} {H : Heap} {locs : List Loc} {cells slots : Nat} {Q : State → Prop}
variable {G : zG} {r : Nat → Nat} {base : Nat} {ro M : zH} {pc : Nat} {ls : Array Slot} {j : Nat}
theorem z_s2_ok (X : z_Cx G p s m args meth c j) (hR : z_R r (z_A base) ro s s.heap) (hRl : z_Rl G r base ro s.heap M H locs) {i : Instr} {len pc1 : Nat} {S S1 : zS} {M1 : zH} (hdg : decode (z_b j) pc = .ok (i, len)) (hlen : len = z_len i len) (hst : z_s2 (z_oc j) ((z_name j).name == "<init>") i pc S M = some (pc1, S1, M1))
    (hc : cells + (M1.length - M.length) ≤ R.cells) (hs : slots + (z_sz M1 - z_sz M) ≤ R.slots)
    (kk : ∀ H1 locs1, z_Rl G r base ro s.heap M1 H1 locs1 → W p l e R s m args below meth c H1 locs1 (cells + (M1.length - M.length)) (slots + (z_sz M1 - z_sz M)) Q (F0 m pc1 ls (S1.map (z_sh (z_ad r base))))) : W p l e R s m args below meth c H locs cells slots Q (F0 m pc ls (S.map (z_sh (z_ad r base)))) := by
  have same : ∀ {pc2 : Nat} {S2 : zS}, some (pc2, S2, M) = some (pc1, S1, M1) → W p l e R s m args below meth c H locs cells slots Q (F0 m pc2 ls (S2.map (z_sh (z_ad r base)))) := by
    intro pc2 S2 h
    cases h
    have k := kk H locs hRl
    simp only [Nat.sub_self, Nat.add_zero] at k
    exact k
  have put : ∀ {pc2 : Nat} {S2 : zS} {a : Nat} {e0 e1 : zE}, M[a]? = some e0 → z_cz e1 = z_cz e0 → some (pc2, S2, M.set a e1) = some (pc1, S1, M1) → ∀ H1 locs1, z_Rl G r base ro s.heap (M.set a e1) H1 locs1 → W p l e R s m args below meth c H1 locs1 cells slots Q (F0 m pc2 ls (S2.map (z_sh (z_ad r base)))) := by
    intro pc2 S2 a e0 e1 h0 hz h H1 locs1 h1
    cases h
    have k := kk H1 locs1 h1
    simp only [List.length_set, z_sz_set h0 hz, Nat.sub_self, Nat.add_zero] at k
    exact k
  have more : ∀ {pc2 : Nat} {S2 : zS} {e1 : zE}, some (pc2, S2, M ++ [e1]) = some (pc1, S1, M1) → (cells + 1 ≤ R.cells ∧ slots + z_cz e1 ≤ R.slots) ∧ ∀ H1, z_Rl G r base ro s.heap (M ++ [e1]) H1 locs → W p l e R s m args below meth c H1 locs (cells + 1) (slots + z_cz e1) Q (F0 m pc2 ls (S2.map (z_sh (z_ad r base)))) := by
    intro pc2 S2 e1 h
    cases h
    have e2 : (M ++ [e1]).length - M.length = 1 := by simp
    have e3 : z_sz (M ++ [e1]) - z_sz M = z_cz e1 := by rw [z_sz_push]; omega
    rw [e2, e3] at kk
    rw [e2] at hc
    rw [e3] at hs
    exact ⟨⟨hc, hs⟩, fun H1 h1 => kk H1 locs h1⟩
  cases i
  case ldc k =>
    obtain rfl : len = 2 := hlen
    dsimp only [z_s2] at hst
    obtain ⟨q, hq, h⟩ := Option.map_eq_some_iff.mp hst
    exact lv_ldc X.1 X.2.1 X.2.2.2.1 (X.2.2.2.2.1 _ (z_in_mem (z_ld_ok _ (z_find_mem hq)))) hdg (same (congrArg some h))
  case ldc_w k =>
    obtain rfl : len = 3 := hlen
    dsimp only [z_s2] at hst
    obtain ⟨q, hq, h⟩ := Option.map_eq_some_iff.mp hst
    exact lv_ldcw X.1 X.2.1 X.2.2.2.1 (X.2.2.2.2.1 _ (z_in_mem (z_ld_ok _ (z_find_mem hq)))) hdg (same (congrArg some h))
  case ldc2_w k =>
    obtain rfl : len = 3 := hlen
    dsimp only [z_s2] at hst
    obtain ⟨q, hq, h⟩ := Option.map_eq_some_iff.mp hst
    exact lv_ldc2 X.1 X.2.1 X.2.2.2.1 (X.2.2.2.2.1 _ (z_in_mem (z_l2_ok _ (z_find_mem hq)))) hdg (same (congrArg some h))
  case getstatic k =>
    obtain rfl : len = 3 := hlen
    dsimp only [z_s2] at hst
    obtain ⟨q, hq, h⟩ := Option.map_eq_some_iff.mp hst
    exact z_gets X hR hRl hq hdg (same (congrArg some h))
  case getfield k =>
    obtain rfl : len = 3 := hlen
    dsimp only [z_s2] at hst
    split at hst
    · split at hst
      · rename_i hM hq
        split at hst
        · rename_i hci
          obtain ⟨v, hv, h⟩ := Option.map_eq_some_iff.mp hst
          exact z_getf X hRl hM hq hci.1 hci.2 hv hdg (same (congrArg some h))
        · cases hst
      · cases hst
    · cases hst
  case putfield k =>
    obtain rfl : len = 3 := hlen
    dsimp only [z_s2] at hst
    split at hst
    · split at hst
      · rename_i hM hq
        split at hst
        · rename_i hci
          exact z_putf X hRl hM hq hci.1 hci.2.1 hci.2.2.1 hci.2.2.2.1 hci.2.2.2.2 hdg (put hM rfl hst)
        · cases hst
      · cases hst
    · cases hst
  case new k =>
    obtain rfl : len = 3 := hlen
    dsimp only [z_s2] at hst
    obtain ⟨q, hq, h⟩ := Option.map_eq_some_iff.mp hst
    obtain ⟨h1, h2⟩ := more (congrArg some h)
    exact z_newo X hRl hq hdg h1.1 h1.2 h2
  case newarray t =>
    obtain rfl : len = 2 := hlen
    dsimp only [z_s2] at hst
    split at hst
    · split at hst
      · cases hst
      · rename_i hn
        split at hst
        · obtain ⟨h1, h2⟩ := more hst
          exact z_newi X hRl hn hdg h1.1 h1.2 h2
        · obtain ⟨h1, h2⟩ := more hst
          exact z_newl X hRl hn hdg h1.1 h1.2 h2
        · cases hst
    · cases hst
  case anewarray k =>
    obtain rfl : len = 3 := hlen
    dsimp only [z_s2] at hst
    split at hst
    · split at hst
      · cases hst
      · rename_i hn
        obtain ⟨q, hq, h⟩ := Option.map_eq_some_iff.mp hst
        obtain ⟨h1, h2⟩ := more (congrArg some h)
        exact z_newr X hRl hq hn hdg h1.1 h1.2 h2
    · cases hst
  case arraylength =>
    obtain rfl : len = 1 := hlen
    dsimp only [z_s2] at hst
    split at hst
    · split at hst
      · rename_i hM
        exact z_alen X hR hRl hM hdg (same hst)
      · cases hst
    · cases hst
  case iaload =>
    obtain rfl : len = 1 := hlen
    dsimp only [z_s2] at hst
    split at hst
    · split at hst
      · rename_i hM
        split at hst
        · cases hst
        · rename_i hi
          exact z_iald X hR hRl hM hi hdg (same hst)
      · cases hst
    · cases hst
  case laload =>
    obtain rfl : len = 1 := hlen
    dsimp only [z_s2] at hst
    split at hst
    · split at hst
      · rename_i hM
        split at hst
        · cases hst
        · rename_i hi
          exact z_lald X hR hRl hM hi hdg (same hst)
      · cases hst
    · cases hst
  case aaload =>
    obtain rfl : len = 1 := hlen
    dsimp only [z_s2] at hst
    split at hst
    · split at hst
      · rename_i hM
        split at hst
        · cases hst
        · rename_i hi
          have hi1 : ¬ (_ ∨ _) := fun q => hi (q.elim Or.inl fun z => Or.inr (Or.inl z))
          have k := same hst
          rw [List.map_cons, z_sh_rf] at k
          exact z_aald X hRl hM hi1 (Nat.not_lt.mp fun q => hi (Or.inr (Or.inr (Or.inl q)))) (Nat.not_lt.mp fun q => hi (Or.inr (Or.inr (Or.inr q)))) hdg k
      · cases hst
    · cases hst
  case iastore =>
    obtain rfl : len = 1 := hlen
    dsimp only [z_s2] at hst
    split at hst
    · split at hst
      · rename_i hM
        split at hst
        · cases hst
        · rename_i hi
          have hi1 : ¬ (_ ∨ _) := fun q => hi (q.elim Or.inl fun z => Or.inr (Or.inl z))
          exact z_iast X hRl hM hi1 (Nat.not_lt.mp fun q => hi (Or.inr (Or.inr q))) hdg (put hM rfl hst)
      · cases hst
    · cases hst
  case lastore =>
    obtain rfl : len = 1 := hlen
    dsimp only [z_s2] at hst
    split at hst
    · split at hst
      · rename_i hM
        split at hst
        · cases hst
        · rename_i hi
          have hi1 : ¬ (_ ∨ _) := fun q => hi (q.elim Or.inl fun z => Or.inr (Or.inl z))
          exact z_last X hRl hM hi1 (Nat.not_lt.mp fun q => hi (Or.inr (Or.inr q))) hdg (put hM rfl hst)
      · cases hst
    · cases hst
  case aastore =>
    obtain rfl : len = 1 := hlen
    dsimp only [z_s2] at hst
    split at hst
    · split at hst
      · rename_i hM
        split at hst
        · cases hst
        · rename_i hi
          have hi1 : ¬ (_ ∨ _) := fun q => hi (q.elim Or.inl fun z => Or.inr (Or.inl z))
          exact z_aastN X hRl hM hi1 (Nat.not_lt.mp fun q => hi (Or.inr (Or.inr (Or.inl q)))) (Nat.not_lt.mp fun q => hi (Or.inr (Or.inr (Or.inr q)))) hdg (put hM rfl hst)
      · cases hst
    · split at hst
      · rename_i hM hV
        split at hst
        · cases hst
        · rename_i hi
          have hi1 : ¬ (_ ∨ _) := fun q => hi (q.elim Or.inl fun z => Or.inr (Or.inl z))
          exact z_aast X hRl hM hV hi1 (Nat.not_lt.mp fun q => hi (Or.inr (Or.inr (Or.inl q)))) (Nat.not_lt.mp fun q => hi (Or.inr (Or.inr (Or.inr (Or.inl q))))) (Classical.byContradiction fun q => hi (Or.inr (Or.inr (Or.inr (Or.inr q))))) hdg (put hM rfl hst)
      · cases hst
    · cases hst
  all_goals cases hst
theorem z_oi : Jvm.Cond.code Jvm.Lib.objectInit ⟨#[0xb1]⟩ 1 none ∈ z_tb := z_in_mem (p := 1027) (by decide +kernel)
theorem z_ws_sh (ad : Nat → Nat) (S : zS) : ((S.map (z_sh ad)).map fun v => v.category).sum = z_ws S := by
  unfold z_ws
  rw [List.map_map]
  congr 1
  exact List.map_congr_left fun v _ => z_sh_cat ad v
theorem z_s3_ok (X : z_Cx G p s m args meth c j) (hls : ls.size = z_ml j) {i : Instr} {len pc1 : Nat} {S S1 : zS} {M1 : zH} (hdg : decode (z_b j) pc = .ok (i, len)) (hlen : len = z_len i len) (hst : z_s3 (z_oc j) i pc S M = some (pc1, S1, M1))
    (hf : 1 ≤ R.frames) (ho : 40 ≤ R.locals) (hc : cells ≤ R.cells) (hs : slots ≤ R.slots)
    (kk : M1 = M → W p l e R s m args below meth c H locs cells slots Q (F0 m pc1 ls (S1.map (z_sh (z_ad r base))))) : W p l e R s m args below meth c H locs cells slots Q (F0 m pc ls (S.map (z_sh (z_ad r base)))) := by
  obtain ⟨hx, hb, hml, hown, hts, hnm, hK⟩ := X
  cases i
  case invokespecial k =>
    obtain rfl : len = 3 := hlen
    dsimp only [z_s3] at hst
    split at hst
    · rename_i hq
      split at hst
      · rename_i hw
        cases hst
        have h1 := z_cI_ok _ (z_find_mem hq)
        dsimp only [z_okI] at h1
        split at h1
        all_goals first | (rename_i h2; cases h2; done) | skip
        all_goals first | (exact absurd h1 (by decide)) | skip
        simp only [Bool.and_eq_true, decide_eq_true_eq] at h1
        obtain ⟨he, h2⟩ := h1
        rw [he] at h2
        have h3 := z_ins_mem h2
        refine W.objInit hx hb hown (hts _ (h3 _ (by simp))) (hts _ (h3 _ (by simp))) (hts _ z_oi) rfl (by rw [hml]; exact hls) rfl hdg hf ?_ (kk rfl)
        rw [z_ws_sh]
        show 2 * 0 + _ + 12 ≤ _
        omega
      · cases hst
    · cases hst
  case invokestatic k =>
    obtain rfl : len = 3 := hlen
    dsimp only [z_s3] at hst
    split at hst
    · rename_i hq
      split at hst
      · split at hst
        · rename_i hw
          cases hst
          have h1 := z_cS_ok _ (z_find_mem hq)
          dsimp only [z_okS] at h1
          split at h1
          all_goals first | (rename_i h2; cases h2; done) | skip
          all_goals first | (exact absurd h1 (by decide)) | skip
          simp only [Bool.and_eq_true, decide_eq_true_eq] at h1
          obtain ⟨he, h2⟩ := h1
          rw [he] at h2
          have h3 := z_ins_mem h2
          refine va_mmax hx hb (by rw [hml]; exact hls.symm) hown (hts _ (h3 _ (by simp))) (hts _ (h3 _ (by simp))) (hts _ (h3 _ (by simp))) (hts _ (h3 _ (by simp))) hf ?_ hc hs hdg (kk rfl)
          rw [z_ws_sh]
          omega
        · cases hst
      · cases hst
    · rename_i hq
      split at hst
      · split at hst
        · rename_i hw
          cases hst
          have h1 := z_cS_ok _ (z_find_mem hq)
          dsimp only [z_okS] at h1
          split at h1
          all_goals first | (rename_i h2; cases h2; done) | skip
          all_goals first | (exact absurd h1 (by decide)) | skip
          simp only [Bool.and_eq_true, decide_eq_true_eq] at h1
          obtain ⟨he, h2⟩ := h1
          rw [he] at h2
          have h3 := z_ins_mem h2
          refine va_mmin hx hb (by rw [hml]; exact hls.symm) hown (hts _ (h3 _ (by simp))) (hts _ (h3 _ (by simp))) (hts _ (h3 _ (by simp))) (hts _ (h3 _ (by simp))) hf ?_ hc hs hdg (kk rfl)
          rw [z_ws_sh]
          omega
        · cases hst
      · cases hst
    · cases hst
  all_goals cases hst
end ZST
end
section
/-! the mini-VM is right: what it runs to, the machine runs to -/
theorem z_s2_mono {c : Nat} {b : Bool} {i : Instr} {pc pc1 : Nat} {S S1 : zS} {M M1 : zH} (h : z_s2 c b i pc S M = some (pc1, S1, M1)) : M.length ≤ M1.length ∧ z_sz M ≤ z_sz M1 := by
  have same : ∀ {pc2 : Nat} {S2 : zS}, some (pc2, S2, M) = some (pc1, S1, M1) → M.length ≤ M1.length ∧ z_sz M ≤ z_sz M1 := by
    intro pc2 S2 h
    cases h
    exact ⟨Nat.le_refl _, Nat.le_refl _⟩
  have put : ∀ {pc2 : Nat} {S2 : zS} {a : Nat} {e0 e1 : zE}, M[a]? = some e0 → z_cz e1 = z_cz e0 → some (pc2, S2, M.set a e1) = some (pc1, S1, M1) → M.length ≤ M1.length ∧ z_sz M ≤ z_sz M1 := by
    intro pc2 S2 a e0 e1 h0 hz h
    cases h
    exact ⟨Nat.le_of_eq (List.length_set).symm, Nat.le_of_eq (z_sz_set h0 hz).symm⟩
  have more : ∀ {pc2 : Nat} {S2 : zS} {e1 : zE}, some (pc2, S2, M ++ [e1]) = some (pc1, S1, M1) → M.length ≤ M1.length ∧ z_sz M ≤ z_sz M1 := by
    intro pc2 S2 e1 h
    cases h
    exact ⟨by simp, by rw [z_sz_push]; omega⟩
  cases i
  case ldc k => obtain ⟨q, hq, h⟩ := Option.map_eq_some_iff.mp h; exact same (congrArg some h)
  case ldc_w k => obtain ⟨q, hq, h⟩ := Option.map_eq_some_iff.mp h; exact same (congrArg some h)
  case ldc2_w k => obtain ⟨q, hq, h⟩ := Option.map_eq_some_iff.mp h; exact same (congrArg some h)
  case getstatic k => obtain ⟨q, hq, h⟩ := Option.map_eq_some_iff.mp h; exact same (congrArg some h)
  case new k => obtain ⟨q, hq, h⟩ := Option.map_eq_some_iff.mp h; exact more (congrArg some h)
  all_goals dsimp only [z_s2] at h
  all_goals try (cases h; done)
  case getfield k =>
    split at h
    · split at h
      · split at h
        · obtain ⟨v, hv, h⟩ := Option.map_eq_some_iff.mp h
          exact same (congrArg some h)
        · cases h
      · cases h
    · cases h
  case putfield k =>
    split at h
    · split at h
      · rename_i hM hq
        split at h
        · exact put hM (by rfl) h
        · cases h
      · cases h
    · cases h
  case newarray t =>
    split at h
    · split at h
      · cases h
      · split at h
        · exact more h
        · exact more h
        · cases h
    · cases h
  case anewarray k =>
    split at h
    · split at h
      · cases h
      · obtain ⟨q, hq, h⟩ := Option.map_eq_some_iff.mp h
        exact more (congrArg some h)
    · cases h
  case arraylength =>
    split at h
    · split at h
      · exact same h
      · cases h
    · cases h
  case iaload =>
    split at h
    · split at h
      · split at h
        · cases h
        · exact same h
      · cases h
    · cases h
  case laload =>
    split at h
    · split at h
      · split at h
        · cases h
        · exact same h
      · cases h
    · cases h
  case aaload =>
    split at h
    · split at h
      · split at h
        · cases h
        · exact same h
      · cases h
    · cases h
  case iastore =>
    split at h
    · split at h
      · rename_i hM
        split at h
        · cases h
        · exact put hM (by rfl) h
      · cases h
    · cases h
  case lastore =>
    split at h
    · split at h
      · rename_i hM
        split at h
        · cases h
        · exact put hM (by rfl) h
      · cases h
    · cases h
  case aastore =>
    split at h
    · split at h
      · rename_i hM
        split at h
        · cases h
        · exact put hM (by rfl) h
      · cases h
    · split at h
      · rename_i hM hV
        split at h
        · cases h
        · exact put hM (by rfl) h
      · cases h
    · cases h
theorem z_s3_same {c : Nat} {i : Instr} {pc pc1 : Nat} {S S1 : zS} {M M1 : zH} (h : z_s3 c i pc S M = some (pc1, S1, M1)) : M1 = M := by
  cases i
  case invokespecial k =>
    dsimp only [z_s3] at h
    split at h
    · split at h
      · cases h; rfl
      · cases h
    · cases h
  case invokestatic k =>
    dsimp only [z_s3] at h
    split at h
    · split at h
      · split at h
        · cases h; rfl
        · cases h
      · cases h
    · split at h
      · split at h
        · cases h; rfl
        · cases h
      · cases h
    · cases h
  all_goals cases h
theorem z_st_mono {j : Nat} {i : Instr} {pc pc1 : Nat} {L L1 : zL} {S S1 : zS} {M M1 : zH} (h : z_st j i pc L S M = some (pc1, L1, S1, M1)) : M.length ≤ M1.length ∧ z_sz M ≤ z_sz M1 := by
  unfold z_st at h
  split at h
  · cases h; exact ⟨Nat.le_refl _, Nat.le_refl _⟩
  · split at h
    · rename_i h2
      cases h
      exact z_s2_mono h2
    · split at h
      · rename_i h3
        cases h
        rw [z_s3_same h3]
        exact ⟨Nat.le_refl _, Nat.le_refl _⟩
      · cases h
theorem z_run_mono : ∀ (n d j pc : Nat) (L : zL) (S : zS) (M M1 : zH) (v : Option Value), z_run n d j pc L S M = some (v, M1) → M.length ≤ M1.length ∧ z_sz M ≤ z_sz M1
  | 0, d, j, pc, L, S, M, M1, v, h => by cases h
  | n + 1, d, j, pc, L, S, M, M1, v, h => by
    unfold z_run at h
    split at h
    · cases h
    · split at h
      · split at h
        · cases h; exact ⟨Nat.le_refl _, Nat.le_refl _⟩
        · split at h
          · rename_i h1
            have a := z_st_mono h1
            have b := z_run_mono n _ _ _ _ _ _ _ _ h
            exact ⟨Nat.le_trans a.1 b.1, Nat.le_trans a.2 b.2⟩
          · split at h
            · split at h
              · split at h
                · rename_i h1
                  have a := z_run_mono n _ _ _ _ _ _ _ _ h1
                  have b := z_run_mono n _ _ _ _ _ _ _ _ h
                  exact ⟨Nat.le_trans a.1 b.1, Nat.le_trans a.2 b.2⟩
                · cases h
              · cases h
            · cases h
      · cases h
theorem z_K.warm {G : zG} {s U : State} (h : z_K G s) (hW : s.WarmedH U.vm) : z_K G U := by
  obtain ⟨h1, h2, h3, h4, h5⟩ := h
  refine ⟨fun ci q hq => u_Kn_moved hW.alike (h1 ci q hq), fun t ht => ⟨arrOfT_moved hW.alike (h2 t ht).1, (h2 t ht).2.moved hW.alike⟩, fun w hw => ?_, va_AO.moved hW.alike h4, va_AO.moved hW.alike h5⟩
  have hz := h3 w hw
  simp only [z_xw, List.mem_cons, List.not_mem_nil, or_false] at hw
  rcases hw with rfl | rfl | rfl | rfl | rfl | rfl | rfl | rfl | rfl | rfl | rfl | rfl | rfl
  all_goals first | exact va_Nw.warmF hW hz | exact va_Nw.warmM hW hz | exact va_Nw.warmC hW hz
theorem z_K.vm {G : zG} {s U : State} (h : z_K G s) (e : s.vm = U.vm) : z_K G U := by
  obtain ⟨h1, h2, h3, h4, h5⟩ := h
  have ha : s.vm.Alike U.vm := by rw [← e]; exact Vm.Alike.refl _
  refine ⟨fun ci q hq => u_Kn_moved ha (h1 ci q hq), fun t ht => ⟨arrOfT_moved ha (h2 t ht).1, (h2 t ht).2.moved ha⟩, fun w hw => ?_, va_AO.moved ha h4, va_AO.moved ha h5⟩
  have hz := h3 w hw
  simp only [z_xw, List.mem_cons, List.not_mem_nil, or_false] at hw
  rcases hw with rfl | rfl | rfl | rfl | rfl | rfl | rfl | rfl | rfl | rfl | rfl | rfl | rfl
  all_goals exact va_Nw.same rfl e hz
theorem z_R.go {r : Nat → Nat} {A : Nat → Prop} {ro : zH} {s U : State} {H H1 : Heap} (h : z_R r A ro s H) (ha : s.vm.Alike U.vm) (hq : ∀ a : Nat, a < H.size → ¬ A a → H1[a]? = H[a]?) : z_R r A ro U H1 := by
  obtain ⟨h1, h2, h3, h4⟩ := h
  refine ⟨(va_Z.moved ha h1).kept hq, (va_Z.moved ha h2).kept hq, (va_Z.moved ha h3).kept hq, fun k e he => ?_⟩
  have h5 := h4 k e he
  match e, h5 with
  | .inl (t, n, .inl f), ⟨g1, g2⟩ => exact ⟨g1, (va_T.moved ha g2).kept hq⟩
  | .inl (t, n, .inr (.inl f)), ⟨g1, g2⟩ => exact ⟨g1, (va_T.moved ha g2).kept hq⟩
  | .inl (t, n, .inr (.inr f)), h => exact h.elim
  | .inr q, h => exact h.elim
def z_wsj (j : Nat) : List Jvm.Cond := .code (z_name j) (z_b j) (z_ml j) (z_rt j) :: z_tb
def z_rm (d mc ms : Nat) : Room := { frames := d + 1, cells := mc, slots := ms, locals := 40 * (d + 1) }
def z_Pc (G : zG) (r : Nat → Nat) (base : Nat) (ro : zH) (vs : List Value) (M : zH) : Array Value → State → Prop := fun av U => av = (vs.map (z_sh (z_ad r base))).toArray ∧ z_K G U ∧ z_R r (z_A base) ro U U.heap ∧ z_Rl G r base ro U.heap M U.heap []
def z_Qc (G : zG) (r : Nat → Nat) (base : Nat) (ro : zH) (v : Option Value) (M : zH) : Array Value → State → Outcome → State → Prop := fun _ st o t => o = .returned (v.map (z_sh (z_ad r base))) ∧ z_Rl G r base ro st.heap M t.heap []
theorem z_blind {G : zG} {r : Nat → Nat} {base : Nat} {ro : zH} {vs : List Value} {M : zH} : FrameBlind (z_Pc G r base ro vs M) := by
  intro a U g mk h
  obtain ⟨h1, h2, h3, h4⟩ := h
  exact ⟨h1, h2.vm rfl, h3.go (Vm.Alike.refl U.vm) (fun _ _ _ => rfl), h4⟩
section ZCL
variable {p : Program} {l : Launch} {e : Env} {R : Room} {s : State} {m : MethodId} {args : Array Value} {below : List Frame} {meth : Method} {c : Code} {H : Heap} {locs : List Loc} {cells slots : Nat} {Q : State → Prop}
variable {G : zG} {r : Nat → Nat} {base : Nat} {ro M M1 : zH} {pc : Nat} {ls : Array Slot} {j : Nat}
/-- what a callee finds at its start -/
theorem z_start (X : z_Cx G p s m args meth c j) (hR : z_R r (z_A base) ro s s.heap) (hRl : z_Rl G r base ro s.heap M H locs) {vs : List Value} : ∀ U : State, U.heap = H → s.WarmedH U.vm → z_Pc G r base ro vs M (vs.map (z_sh (z_ad r base))).toArray U := by
  intro U hU hW
  obtain ⟨-, -, -, -, -, -, hK⟩ := X
  obtain ⟨h1, h2, h3, h4, h5, h6⟩ := hRl
  refine ⟨rfl, hK.warm hW, ?_, ?_⟩
  · rw [hU]
    exact hR.go hW.alike (fun a g1 g2 => h5.2.1 a g1 g2)
  · rw [hU]
    exact ⟨h1, h2, h3, h4, va_S.rf, Nat.le_trans h6 h5.1⟩
/-- behind a call -/
theorem z_back {v : Option Value} {st0 rest : List Value} {a : Array Value} {mc ms : Nat} (hr : va_Run p l e R s m args below meth c H locs cells slots mc ms (F0 m pc ls st0) rest (z_Qc G r base ro v M1 a) (z_A base)) (hRl : z_Rl G r base ro s.heap M H locs)
    (kk : ∀ H1 locs1, z_Rl G r base ro s.heap M1 H1 locs1 → W p l e R s m args below meth c H1 locs1 (cells + mc) (slots + ms) Q (F0 m (pc + 3) ls ((v.map (z_sh (z_ad r base))).toList ++ rest))) : W p l e R s m args below meth c H locs cells slots Q (F0 m pc ls st0) := by
  intro T hT X
  obtain ⟨v', st₀, t, T', L, h0, X', hL, e1, e2, ⟨hv, hl⟩, st⟩ := hr T hT X
  cases hv
  obtain ⟨h1, h2, h3, h4, h5, h6⟩ := hRl
  obtain ⟨g1, g2, g3, g4, g5, g6⟩ := hl
  rw [h0] at g5 g6
  obtain ⟨t2, a1, b1⟩ := kk T'.heap (locs ++ L) (by
    rw [e1]
    refine ⟨g1, g2, g3, g4, ⟨Nat.le_trans h5.1 g5.1, fun q q1 q2 => (g5.2.1 q (Nat.lt_of_lt_of_le q1 h5.1) q2).trans (h5.2.1 q q1 q2), fun q hq => ?_⟩, h6⟩
    rcases List.mem_append.mp hq with h | h
    · exact h5.2.2 q h
    · exact hL q h) T' rfl X'
  exact ⟨t2, st t2 a1, b1⟩
theorem z_okm_use {k : Nat} (h : k < z_nm) : plainName (z_name k).cls = true ∧ z_cn (z_oc k) = (z_name k).cls ∧ z_ml k ≤ 20 ∧ ((z_name k).cls ≠ "java/lang/invoke/MethodHandle" ∧ (z_name k).cls ≠ "java/lang/invoke/VarHandle") := by
  have h1 := z_okm_all k h
  simp only [z_okm, z_fine, Bool.and_eq_true, decide_eq_true_eq] at h1
  exact ⟨h1.1, h1.2.1, h1.2.2.1, h1.2.2.2⟩
theorem z_wsj_good {k : Nat} (h1 : 1 ≤ k) (h2 : k < z_nm) : GoodIn z_tb (z_wsj k) := by
  intro w hw
  rcases List.mem_cons.mp hw with rfl | h
  · exact z_tb_good _ (z_code h1 h2)
  · exact z_tb_good w h
theorem z_stack {n b : Nat} {S : zS} (h : S[n]? = some (.ref b)) (ad : Nat → Nat) : S.map (z_sh ad) = ((S.take n).reverse.map (z_sh ad)).reverse ++ .ref (ad b) :: (S.drop (n + 1)).map (z_sh ad) := by
  have hl : n < S.length := (List.getElem?_eq_some_iff.mp h).1
  have h1 : S = S.take n ++ .ref b :: S.drop (n + 1) := by
    have h2 := List.take_append_drop n S
    rw [List.drop_eq_getElem_cons hl, (List.getElem?_eq_some_iff.mp h).2] at h2
    exact h2.symm
  conv => lhs; rw [h1]
  rw [List.map_append, List.map_cons, List.map_reverse, List.reverse_reverse]
  rfl
theorem z_stackS (n : Nat) (S : zS) (ad : Nat → Nat) : S.map (z_sh ad) = ((S.take n).reverse.map (z_sh ad)).reverse ++ (S.drop n).map (z_sh ad) := by
  rw [List.map_reverse, List.reverse_reverse, ← List.map_append, List.take_append_drop]
end ZCL
end
section
/-! calls, and the whole: a run of the mini-VM is a run of the machine -/
theorem z_gi {ws1 ws2 : List Jvm.Cond} (h1 : ∀ w ∈ ws1, w ∈ z_tb) (h2 : GoodIn z_tb ws2) : GoodIn z_tb (ws1 ++ ws2) := by
  intro w hw
  rcases List.mem_append.mp hw with h | h
  · exact z_tb_good w (h1 w h)
  · exact h2 w h
section ZMN
variable {p : Program} {l : Launch} {e : Env} {R : Room} {s : State} {m : MethodId} {args : Array Value} {below : List Frame} {meth : Method} {c : Code} {H : Heap} {locs : List Loc} {cells slots : Nat} {Q : State → Prop}
variable {G : zG} {r : Nat → Nat} {base : Nat} {ro M M1 : zH} {pc : Nat} {ls : Array Slot} {j : Nat}
theorem z_recv (X : z_Cx G p s m args meth c j) (hRl : z_Rl G r base ro s.heap M H locs) {b ci : Nat} {fs : List Value} (hM : M[b]? = some (.inr (ci, fs))) (hb : 4 ≤ b) : (∃ cellB : Cell, H[z_ad r base b]? = some cellB ∧ cellB.vm.isStatics = false ∧ s.vm.findClass (z_cn ci) = some cellB.cls) ∧ ∃ cC, ClassAt s (z_cn ci) cC := by
  obtain ⟨-, -, -, -, -, -, hK⟩ := X
  obtain ⟨w, hw, cell, q1, q2, q3, -⟩ := hRl.2.2.2.1 b _ hb hM
  have h1 := (hK.1 ci w hw).2
  rw [(z_okc_use hw).1] at h1
  exact ⟨⟨cell, q1, by rw [q3]; rfl, by rw [q2]; exact h1.1⟩, _, h1⟩
theorem z_callrun (X : z_Cx G p s m args meth c j) (hR : z_R r (z_A base) ro s s.heap) (hRl : z_Rl G r base ro s.heap M H locs) (hls : ls.size = z_ml j) {i : Instr} {len kd k d1 mc ms : Nat} {S rst : zS} {vs : List Value} {v : Option Value} (hdg : decode (z_b j) pc = .ok (i, len)) (hlen : len = z_len i len)
    (hcall : z_call (z_oc j) i S M = some (kd, k, vs, rst)) (hw : z_ws rst ≤ 8) (hkd : kd ≠ 9 ∧ kd ≠ 8) (hMet : 1 ≤ k → k < z_nm → Met l (z_name k) (z_wsj k) (z_rm d1 mc ms) (z_Pc G r base ro vs M) (z_Qc G r base ro v M1) mc ms (z_A base))
    (hf : d1 + 2 ≤ R.frames) (hlo : 40 * (d1 + 2) ≤ R.locals) (hc : cells + mc ≤ R.cells ∧ slots + ms ≤ R.slots) :
    ∃ a, va_Run p l e R s m args below meth c H locs cells slots mc ms (F0 m pc ls (S.map (z_sh (z_ad r base)))) (rst.map (z_sh (z_ad r base))) (z_Qc G r base ro v M1 a) (z_A base) := by
  have hst := z_start X hR hRl (vs := vs)
  have X0 := X
  obtain ⟨hx, hb, hml, hown, hts, hnm, hK⟩ := X
  have hroom : ∀ {k : Nat}, k < z_nm → (z_rm d1 mc ms).frames + 1 ≤ R.frames ∧ 8 + (z_ml k + 11) + (z_rm d1 mc ms).locals ≤ R.locals := by
    intro k hk
    obtain ⟨-, -, h1, -⟩ := z_okm_use hk
    refine ⟨hf, ?_⟩
    show 8 + (z_ml k + 11) + 40 * (d1 + 1) ≤ _
    omega
  have hfix : CallFix p m c (z_b j) (z_ml j) s args z_tb (z_cn (z_oc j)) := ⟨hx, hb, hml, hown, hts⟩
  have hW : 2 * (F0 m pc ls (S.map (z_sh (z_ad r base)))).monitorRoom + ((rst.map (z_sh (z_ad r base))).map fun v => v.category).sum ≤ 8 := by
    rw [z_ws_sh]
    show 2 * 0 + _ ≤ 8
    omega
  cases i
  case invokestatic idx =>
    obtain rfl : len = 3 := hlen
    dsimp only [z_call] at hcall
    split at hcall
    · rename_i hq
      split at hcall
      · split at hcall
        · rename_i hn
          cases hcall
          have h1 := z_cS_ok _ (z_find_mem hq)
          dsimp only [z_okS] at h1
          split at h1
          all_goals first | (rename_i h2; cases h2; done) | skip
          · rename_i h2
            cases h2
            simp only [Bool.and_eq_true, decide_eq_true_eq, z_np, z_okj] at h1
            obtain ⟨he, hp, hj, h3⟩ := h1
            have h3 := z_ins_mem h3
            rw [he] at h3 hp
            have hgood := z_gi h3 (z_wsj_good hj.1 hj.2)
            refine ⟨_, va_runS hfix (hMet hj.1 hj.2) (va_cwS _ hts hgood rfl rfl rfl ⟨(z_okm_use hj.2).2.2.2.1, (z_okm_use hj.2).2.2.2.2, hp⟩ (hroom hj.2)) ⟨z_blind, hst⟩ rfl ?_ hls (z_stackS _ _ _) hW hdg hc⟩
            rw [List.length_map, List.length_reverse, List.length_take]
            omega
          · rename_i h2
            cases h2
            simp only [Bool.and_eq_true, decide_eq_true_eq, z_np, z_okj] at h1
            obtain ⟨he, hp, hj, h3, h4⟩ := h1
            have h3 := z_ins_mem h3
            rw [he] at h3 hp h4
            refine ⟨_, va_runSN hfix (hMet hj.1 hj.2) ⟨va_cnB _ hts (z_wsj_good hj.1 hj.2) rfl rfl rfl (hK.2.2.1 _ h4) (hts _ (h3 _ (by simp))) ⟨(z_okm_use hj.2).2.2.2.1, (z_okm_use hj.2).2.2.2.2, hp⟩ (hroom hj.2), hts _ (h3 _ (by simp)), trivial⟩ ⟨z_blind, hst⟩ rfl ?_ hls (z_stackS _ _ _) hW hdg hc⟩
            rw [List.length_map, List.length_reverse, List.length_take]
            omega
          · cases h1
        · cases hcall
      · cases hcall
    · cases hcall
  case invokevirtual idx =>
    obtain rfl : len = 3 := hlen
    dsimp only [z_call] at hcall
    split at hcall
    · rename_i hq
      split at hcall
      · rename_i hS
        split at hcall
        · rename_i hM
          split at hcall
          · rename_i hb4
            obtain ⟨t, ht, hcall⟩ := Option.map_eq_some_iff.mp hcall
            cases hcall
            have ht1 := List.find?_some ht
            have ht2 := List.mem_of_find?_eq_some ht
            rw [beq_iff_eq] at ht1
            have hlen2 : ∀ n : Nat, n < S.length → ((S.take n).reverse.map (z_sh (z_ad r base))).length = n := by
              intro n hn
              rw [List.length_map, List.length_reverse, List.length_take]
              omega
            have hSl := (List.getElem?_eq_some_iff.mp hS).1
            obtain ⟨hrc, -⟩ := z_recv X0 hRl hM hb4
            have h1 := z_cV_ok _ (z_find_mem hq)
            dsimp only [z_okV] at h1
            split at h1
            · simp only [Bool.and_eq_true, decide_eq_true_eq, z_np, z_okj] at h1
              obtain ⟨he, hp, hj, h4, h3⟩ := h1
              have h3 := z_ins_mem h3
              rw [List.mem_singleton] at ht2
              subst ht2
              subst ht1
              rw [he] at h3 hp h4
              rw [h4.1] at hrc
              have hgood := z_gi h3 (z_wsj_good hj.1 hj.2)
              exact ⟨_, va_runV hfix (hMet hj.1 hj.2) (cwV _ hts hgood rfl rfl rfl ⟨rfl, (z_okm_use hj.2).2.2.2.1, (z_okm_use hj.2).2.2.2.2, hp⟩ (hroom hj.2)) ⟨z_blind, hrc, hst⟩ rfl (hlen2 _ hSl) hls (z_stack hS _) hW hdg hc⟩
            · simp only [Bool.and_eq_true, decide_eq_true_eq, z_np, z_okj, z_fine, List.all_eq_true, List.any_eq_true] at h1
              obtain ⟨hp, how, h3, h4, ⟨k0, -, hk0, hn0⟩⟩ := h1
              have h3 := z_ins_mem h3
              obtain ⟨hj, hci⟩ := h4 t ht2
              have h5 : ∀ w ∈ ([.selects (z_cn t.1) _ (z_name t.2), .instanceMethod (z_name t.2), .initialized (z_name t.2).cls] : List Jvm.Cond), w ∈ z_tb := fun w hw => h3 w (List.mem_append_right _ (List.mem_flatMap.mpr ⟨t, ht2, hw⟩))
              have hcode := z_code hk0.1 hk0.2
              rw [hn0] at hcode
              rw [← ht1] at hrc
              refine ⟨_, va_runU hfix (hMet hj.1 hj.2) ⟨⟨rfl, rfl, (hroom hj.2).1, (hroom hj.2).2, pay_in hts (z_wsj_good hj.1 hj.2), List.mem_cons_self⟩, hts _ (z_code hj.1 hj.2), hts _ (h5 _ (by simp)), how, fun sig hsig => ?_, hts _ (h3 _ (by simp)), hts _ (h3 _ (by simp)), va_Decl.of (hts _ (h3 _ (by simp))) (hts _ hcode), hts _ (h5 _ (by simp)), hts _ (h5 _ (by simp))⟩ ⟨z_blind, hrc, hst⟩ rfl (hlen2 _ hSl) hls (z_stack hS _) hW hdg hc⟩
              rw [hsig] at hp
              exact (Option.some.inj hp).symm
            · cases h1
          · cases hcall
        · cases hcall
      · cases hcall
    · cases hcall
  case invokespecial idx =>
    obtain rfl : len = 3 := hlen
    dsimp only [z_call] at hcall
    split at hcall
    · rename_i hq
      split at hcall
      · rename_i hS
        split at hcall
        · rename_i hM
          split at hcall
          · rename_i hb4
            cases hcall
            have hSl := (List.getElem?_eq_some_iff.mp hS).1
            have hlen2 : ∀ n : Nat, n < S.length → ((S.take n).reverse.map (z_sh (z_ad r base))).length = n := by
              intro n hn
              rw [List.length_map, List.length_reverse, List.length_take]
              omega
            obtain ⟨hrc, cC, hat⟩ := z_recv X0 hRl hM hb4
            have h1 := z_cI_ok _ (z_find_mem hq)
            dsimp only [z_okI] at h1
            split at h1
            all_goals first | (rename_i h2; cases h2; done) | skip
            · rename_i h2
              cases h2
              simp only [Bool.and_eq_true, decide_eq_true_eq, z_np, z_okj] at h1
              obtain ⟨⟨he, hi, hrt⟩, hp, hj, h3⟩ := h1
              have h3 := z_ins_mem h3
              rw [he] at h3 hp hi
              have hwz : z_wsj k = Jvm.Cond.code (z_name k) (z_b k) (z_ml k) none :: z_tb := by unfold z_wsj; rw [hrt]
              exact ⟨_, va_runI hfix (hMet hj.1 hj.2) (cwI _ hts (z_wsj_good hj.1 hj.2) hwz rfl rfl (hts _ (h3 _ (by simp))) (hts _ (h3 _ (by simp))) (hts _ (h3 _ (by simp))) hi ⟨(z_okm_use hj.2).2.2.2.1, (z_okm_use hj.2).2.2.2.2, hp⟩ (hroom hj.2)) ⟨z_blind, hst⟩ rfl (hlen2 _ hSl) hls (z_stack hS _) hW hdg hc⟩
            · rename_i h2
              cases h2
              simp only [Bool.and_eq_true, decide_eq_true_eq, z_np, z_okj] at h1
              obtain ⟨⟨he, hi, hrt⟩, hp, hj, h3, h4⟩ := h1
              have h3 := z_ins_mem h3
              rw [he] at h3 hp hi h4
              have hwz : z_wsj k = Jvm.Cond.code (z_name k) (z_b k) (z_ml k) none :: z_tb := by unfold z_wsj; rw [hrt]
              exact ⟨_, va_runIN hfix (hMet hj.1 hj.2) ⟨va_cnB _ hts (z_wsj_good hj.1 hj.2) hwz rfl rfl (hK.2.2.1 _ h4) (hts _ (h3 _ (by simp))) ⟨(z_okm_use hj.2).2.2.2.1, (z_okm_use hj.2).2.2.2.2, hp⟩ (hroom hj.2), hi, hts _ (h3 _ (by simp))⟩ ⟨z_blind, hst⟩ rfl (hlen2 _ hSl) hls (z_stack hS _) hW hdg hc⟩
            · rename_i h2
              cases h2
              simp only [Bool.and_eq_true, decide_eq_true_eq, z_np, z_okj] at h1
              obtain ⟨⟨he, hi⟩, hp, hj, h3⟩ := h1
              have h3 := z_ins_mem h3
              rw [he] at h3 hp hi
              have hgood := z_gi h3 (z_wsj_good hj.1 hj.2)
              exact ⟨_, va_runSU hat hfix (hMet hj.1 hj.2) (va_cwSU _ hts hgood rfl rfl rfl ⟨hi, hp⟩ (hroom hj.2)) ⟨z_blind, hrc, hst⟩ rfl (hlen2 _ hSl) hls (z_stack hS _) hW hdg hc⟩
            · exact absurd rfl hkd.1
            · cases h1
          · cases hcall
        · cases hcall
      · cases hcall
    · cases hcall
  all_goals cases hcall
end ZMN
end
section
/-! the whole -/
section ZSO
variable {p : Program} {l : Launch} {e : Env} {R : Room} {s : State} {m : MethodId} {args : Array Value} {below : List Frame} {meth : Method} {c : Code} {H : Heap} {locs : List Loc} {cells slots : Nat} {Q : State → Prop}
variable {G : zG} {r : Nat → Nat} {base : Nat} {ro M M1 : zH} {pc : Nat} {ls : Array Slot} {j : Nat}
/-- the end of a method under contract -/
theorem z_ret (X : z_Cx G p s m args meth c j) (hr : meth.sig.returnType = z_rt j) (hlocks : meth.locks = false) (hRl : z_Rl G r base ro s.heap M H locs) {i : Instr} {len : Nat} {S : zS} {v : Option Value} (hdg : decode (z_b j) pc = .ok (i, len)) (hlen : len = z_len i len) (he : z_end j i S = some v) :
    W p l e R s m args below meth c H locs cells slots (MQ below (z_Qc G r base ro v M) args s cells slots (z_A base)) (F0 m pc ls (S.map (z_sh (z_ad r base)))) := by
  obtain ⟨hx, hb, hml, hown, hts, hnm, hK⟩ := X
  have hf : ∀ q ∈ locs, z_A base q.base := hRl.2.2.2.2.1.2.2
  have hq : ∀ t : State, t.heap = H → s.WarmedH t.vm → z_Qc G r base ro v M args s (.returned (v.map (z_sh (z_ad r base)))) t := by
    intro t ht _
    obtain ⟨h1, h2, h3, h4, h5, h6⟩ := hRl
    refine ⟨rfl, ?_⟩
    rw [ht]
    exact ⟨h1, h2, h3, h4, ⟨h5.1, h5.2.1, fun _ h => by cases h⟩, h6⟩
  unfold z_end at he
  split at he
  · rename_i hz
    cases he
    obtain rfl : len = 1 := hlen
    rw [hz] at hr
    exact W.vret hx hb hr hq hf hdg hlocks
  · rename_i hz
    cases he
    obtain rfl : len = 1 := hlen
    rw [hz] at hr
    exact W.iret hx hb hr hq hf hdg hlocks
  · rename_i hz
    split at he
    · rename_i hv
      cases he
      obtain rfl : len = 1 := hlen
      rw [hz] at hr
      refine W.zret hx hb hr ?_ hq hf hdg hlocks
      rcases hv with rfl | rfl
      · decide
      · decide
    · cases he
  · rename_i hz
    cases he
    obtain rfl : len = 1 := hlen
    rw [hz] at hr
    exact W.lret hx hb hr hq hf hdg hlocks
  · rename_i hz
    cases he
    obtain rfl : len = 1 := hlen
    rw [hz] at hr
    exact W.aret hx hb hr (Or.inl ⟨_, rfl⟩) (Or.inr ⟨_, rfl⟩) hq hf hdg hlocks
  · rename_i hz
    cases he
    obtain rfl : len = 1 := hlen
    rw [hz] at hr
    exact W.aret hx hb hr (Or.inl ⟨_, rfl⟩) (Or.inl rfl) hq hf hdg hlocks
  · cases he
end ZSO
/-- A RUN OF THE MINI-VM IS A RUN OF THE MACHINE, from any place of any method -/
theorem z_sound (l : Launch) (G : zG) (r : Nat → Nat) (base : Nat) (ro : zH) : ∀ (n : Nat) {p : Program} {e : Env} {R : Room} {s : State} {m : MethodId} {args : Array Value} {below : List Frame} {meth : Method} {c : Code} {Q : State → Prop} {j d pc : Nat} {L : zL} {S : zS} {M M1 : zH} {v : Option Value} {H : Heap} {locs : List Loc} {cells slots : Nat} {ls : Array Slot},
    z_Cx G p s m args meth c j → z_R r (z_A base) ro s s.heap → z_Rl G r base ro s.heap M H locs → z_lv (z_ad r base) ls (z_ml j) L → z_run n d j pc L S M = some (v, M1) →
    cells + (M1.length - M.length) ≤ R.cells → slots + (z_sz M1 - z_sz M) ≤ R.slots → d + 1 ≤ R.frames → 40 * (d + 1) ≤ R.locals →
    (∀ (pc2 len : Nat) (i : Instr) (S2 : zS) (H2 : Heap) (locs2 : List Loc) (ls2 : Array Slot), decode (z_b j) pc2 = .ok (i, len) → len = z_len i len → z_end j i S2 = some v → z_Rl G r base ro s.heap M1 H2 locs2 → W p l e R s m args below meth c H2 locs2 (cells + (M1.length - M.length)) (slots + (z_sz M1 - z_sz M)) Q (F0 m pc2 ls2 (S2.map (z_sh (z_ad r base))))) →
    W p l e R s m args below meth c H locs cells slots Q (F0 m pc ls (S.map (z_sh (z_ad r base)))) := by
  intro n
  induction n with
  | zero => intro p e R s m args below meth c Q j d pc L S M M1 v H locs cells slots ls X hR hRl hl hrun; cases hrun
  | succ n ih =>
    intro p e R s m args below meth c Q j d pc L S M M1 v H locs cells slots ls X hR hRl hl hrun hc hs hf ho fin
    unfold z_run at hrun
    split at hrun
    · cases hrun
    · rename_i i len hdg
      split at hrun
      · rename_i hlen
        split at hrun
        · rename_i v' he
          cases hrun
          have k := fin pc len i S H locs ls hdg hlen he hRl
          simp only [Nat.sub_self, Nat.add_zero] at k
          exact k
        · split at hrun
          · rename_i pc1 L1 S1 M2 hst
            have hm := z_st_mono hst
            have hm2 := z_run_mono n _ _ _ _ _ _ _ _ hrun
            have e1 : cells + (M2.length - M.length) + (M1.length - M2.length) = cells + (M1.length - M.length) := by omega
            have e2 : slots + (z_sz M2 - z_sz M) + (z_sz M1 - z_sz M2) = slots + (z_sz M1 - z_sz M) := by omega
            have go : ∀ (H2 : Heap) (locs2 : List Loc) (ls2 : Array Slot), z_Rl G r base ro s.heap M2 H2 locs2 → z_lv (z_ad r base) ls2 (z_ml j) L1 → W p l e R s m args below meth c H2 locs2 (cells + (M2.length - M.length)) (slots + (z_sz M2 - z_sz M)) Q (F0 m pc1 ls2 (S1.map (z_sh (z_ad r base)))) := by
              intro H2 locs2 ls2 h1 h2
              refine ih X hR h1 h2 hrun (by rw [e1]; exact hc) (by rw [e2]; exact hs) hf ho ?_
              rw [e1, e2]
              exact fin
            unfold z_st at hst
            split at hst
            · rename_i h1
              cases hst
              refine z_s1_ok X.1 X.2.1 hl hdg hlen h1 (fun ls1 h2 => ?_)
              have k := go H locs ls1 hRl h2
              simp only [Nat.sub_self, Nat.add_zero] at k
              exact k
            · split at hst
              · rename_i h1
                cases hst
                exact z_s2_ok X hR hRl hdg hlen h1 (by omega) (by omega) (fun H1 locs1 h2 => go H1 locs1 ls h2 hl)
              · split at hst
                · rename_i h1
                  cases hst
                  refine z_s3_ok X hl.1 hdg hlen h1 (by omega) (by omega) (by omega) (by omega) (fun h2 => ?_)
                  subst h2
                  have k := go H locs ls hRl hl
                  simp only [Nat.sub_self, Nat.add_zero] at k
                  exact k
                · cases hst
          · split at hrun
            · rename_i d1 kd k vs rst hcall
              split at hrun
              · rename_i hg
                split at hrun
                · rename_i v2 M2 hrun2
                  have hm := z_run_mono n _ _ _ _ _ _ _ _ hrun2
                  have hm2 := z_run_mono n _ _ _ _ _ _ _ _ hrun
                  have e1 : cells + (M2.length - M.length) + (M1.length - M2.length) = cells + (M1.length - M.length) := by omega
                  have e2 : slots + (z_sz M2 - z_sz M) + (z_sz M1 - z_sz M2) = slots + (z_sz M1 - z_sz M) := by omega
                  have hMet : 1 ≤ k → k < z_nm → Met l (z_name k) (z_wsj k) (z_rm d1 (M2.length - M.length) (z_sz M2 - z_sz M)) (z_Pc G r base ro vs M) (z_Qc G r base ro v2 M2) (M2.length - M.length) (z_sz M2 - z_sz M) (z_A base) := by
                    intro hk1 hk2
                    obtain ⟨g1, g2, g3, g4⟩ := z_okm_use hk2
                    refine Met.ofW (cc := z_b k) (maxL := z_ml k) (ret := z_rt k) g1 rfl ?_
                    intro p e s m args below meth c s₁ B hml hv
                    obtain ⟨rfl, hK, hR', hRl'⟩ := hv
                    have hts := atoms_spec (ws := z_wsj k) B.pre
                    have hown : s.vm.findClass (z_name k).cls = some m.cls := findClass_of_methodNamed B.named
                    have X' : z_Cx G p s m (vs.map (z_sh (z_ad r base))).toArray meth c k := ⟨B.exec, B.bytes, hml, by rw [g2]; exact hown, fun w hw => hts w (List.mem_cons_of_mem _ hw), fun h => by rw [(name_of_methodNamed B.named B.method).1]; exact eq_of_beq h, hK⟩
                    rw [lg_entry_eq]
                    refine ih X' hR' hRl' (z_lv_entry _ vs hg.2.2.2) hrun2 ?_ ?_ ?_ ?_ ?_
                    · show 0 + _ ≤ M2.length - M.length
                      omega
                    · show 0 + _ ≤ z_sz M2 - z_sz M
                      omega
                    · exact Nat.le_refl _
                    · exact Nat.le_refl _
                    · intro pc2 len2 i2 S2 H2 locs2 ls2 q1 q2 q3 q4
                      rw [Nat.zero_add, Nat.zero_add]
                      exact z_ret X' B.returns B.notSynchronized q4 q1 q2 q3
                  obtain ⟨a, hrr⟩ := z_callrun (l := l) (cells := cells) (slots := slots) (d1 := d1) X hR hRl hl.1 hdg hlen hcall hg.1 ⟨hg.2.1, hg.2.2.1⟩ hMet (by omega) (by omega) ⟨by omega, by omega⟩
                  refine z_back hrr hRl (fun H2 locs2 h1 => ?_)
                  have k := ih X hR h1 hl hrun (by rw [e1]; exact hc) (by rw [e2]; exact hs) hf ho (by rw [e1, e2]; exact fin)
                  rw [List.map_append] at k
                  have hv2 : (v2.toList).map (z_sh (z_ad r base)) = (v2.map (z_sh (z_ad r base))).toList := by cases v2 <;> rfl
                  rw [hv2] at k
                  exact k
                · cases hrun
              · cases hrun
            · cases hrun
      · cases hrun
end
section
/-! THE CLAIM OUT OF ONE WALK OF THE LAW'S BODY. Your part is whole_start (and what it stands on); all else here is the same for every law, but numbers. -/
def R_law : String := "DoorBenchLaw"
def lw_P (b : Addr) (xs : List Int32) (args : Array Value) (s : State) : Prop := args = #[.ref b] ∧ s.IntsAt b xs ∧ xs.length ≤ 6 ∧ (Jvm.Cond.and given_1 narrow_1).before args s = true
def lw_Q (_ : Array Value) (s : State) (o : Outcome) (t : State) : Prop := o = .returned (some (.int 1)) ∧ Framed s o t [] 600000 7302250
def lw_Z (below : List Frame) (a : Array Value) (s : State) : State → Prop := fun t => ∃ o, t.status = .running ∧ Ended t below o ∧ lw_Q a s o t
/-- the law's own end, with 1 on the stack, nothing written that was there before, its room as the claim has it -/
theorem lw_ret {p : Program} {l : Launch} {e : Env} {s : State} {m : MethodId} {below : List Frame} {meth : Method} {c : Code} {b : Nat} (hx : p.tables.exec = Jvm.exec) (hb : c.code = code) (hr : meth.sig.returnType = ret) (hlocks : meth.locks = false) {pc : Nat} {H : Heap} {ls : Array Slot} (hdg : decode code pc = .ok (.ireturn, 1)) : W p l e room_1 s m #[Value.ref b] below meth c H [] 600000 7302250 (lw_Z below #[Value.ref b] s) (F0 m pc ls [.int 1]) := by
  intro T hT X
  obtain ⟨fs, hret, hrun, hended, hW, hframe⟩ := X.leave (v := some (.int 1)) (hlocks := hlocks) (fun h => by rw [hr] at h; cases h)
  have hmeth' : T.vm.method? m = some meth := X.method'
  refine ⟨T.setFrames fs, ?_, .returned (some (.int 1)), hrun, hended, rfl, ⟨_, rfl⟩, hW, hframe⟩
  jvm_step X.here [X.here.top, hx, hb, hdg, hmeth', hr, ret, narrow_b1]
  (try refine ⟨rfl, ?_⟩); (try refine ⟨rfl, ?_⟩)
  first | (intro acts; rw [hret _ acts rfl rfl rfl]) | rw [hret _ _ rfl rfl rfl]
  exact Steps.refl _
/-- what holds at the law's entry: the machine, the code, the tables' words (any of lw_tbl by 'hts w (by decide +kernel)'), the script of L ints xs at the cell b, what the Statement gives of the start (any of its parts by flat_of_before) -/
def lw_At (p : Program) (s : State) (m : MethodId) (meth : Method) (c : Code) (b L : Nat) (xs : Nat → Int32) : Prop :=
  p.tables.exec = Jvm.exec ∧ c.code = code ∧ meth.sig.returnType = ret ∧ c.maxLocals = 4 ∧ s.vm.findClass R_law = some m.cls ∧ (∀ w ∈ lw_tbl, w.before #[Value.ref b] s = true) ∧ va_X b L xs s s.heap ∧ b < s.heap.size ∧ meth.locks = false ∧ (Jvm.Cond.and given_1 narrow_1).before #[Value.ref b] s = true
/-! the start of the law: what the mini-VM's heap is there -/
def z_tc : List Int32 := [1, 0, 0, 0, 0, 0, 1, 1, 0, 0, 0, 0, 1, 2, 1, 0, 0, 0, 1, 3, 3, 1, 0, 0, 1, 4, 6, 4, 1, 0, 1, 5, 10, 10, 5, 1, 1, 6, 15, 20, 15, 6, 1, 7, 21, 35, 35, 21, 1, 8, 28, 56, 70, 56, 1, 9, 36, 84, 126, 126, 1, 10, 45, 120, 210, 252, 1, 11, 55, 165, 330, 462, 1, 12, 66, 220, 495, 792, 1, 13, 78, 286, 715, 1287, 1, 14, 91, 364, 1001, 2002, 1, 15, 105, 455, 1365, 3003, 1, 16, 120, 560, 1820, 4368]
def z_tk3 : List Int32 := [(-1), 0, 1, 1, 0, 0, 5, 0]
def z_ty2 : List Int64 := [(-6148914691236517206), (-3689348814741910324), (-1085102592571150096), (-71777214294589696), (-281470681808896), (-4294967296)]
/-- the cells that are there before the law makes any -/
def z_M0 (L : Nat) (xs : Nat → Int32) : zH := [.inl (0, L, .inl xs), .inl (0, 102, .inl fun j => z_tc.getD j 0), .inl (1, 6, .inr (.inl fun j => z_ty2.getD j 0)), .inl (0, 8, .inl fun j => z_tk3.getD j 0)]
def z_flat : List Jvm.Cond := flatC (Jvm.Cond.and given_1 narrow_1)
theorem z_el_c : ∀ j, j < 102 → Jvm.Cond.eq (.elem (.static "DoorBench" "CHOOSE" "[I") (.int (Int32.ofNat j))) (.int (z_tc.getD j 0)) ∈ z_flat := by decide +kernel
theorem z_el_k : ∀ j, j < 8 → Jvm.Cond.eq (.elem (.static "DoorBench" "KIND_ABOVE" "[I") (.int (Int32.ofNat j))) (.int (z_tk3.getD j 0)) ∈ z_flat := by decide +kernel
theorem z_el_y : ∀ j, j < 6 → Jvm.Cond.eq (.elem (.static "DoorBench" "YES_SETS" "[J") (.int (Int32.ofNat j))) (.long (z_ty2.getD j 0)) ∈ z_flat := by decide +kernel
theorem z_lw_in : ∀ w ∈ z_tb, w ∈ lw_tbl := fun w h => (List.mem_filter.mp h).1
theorem z_xw_in : ∀ w ∈ z_xw, w ∈ tables_1 := by decide +kernel
theorem z_tb_1 {w : Jvm.Cond} (h : w ∈ tables_1) : w ∈ lw_tbl := List.mem_append_right _ h
theorem z_inst_in : ∀ ci, ci < 13 → Jvm.Cond.instantiable (z_cn ci) (z_nf ci) ∈ tables_1 := by decide +kernel
theorem z_ao_b : Jvm.Cond.arrayOver (.object "DoorBench$Bench") ∈ tables_1 := by decide +kernel
theorem z_ao_w : Jvm.Cond.arrayOver (.object "DoorBench$Way") ∈ tables_1 := by decide +kernel
theorem z_ls_c : Jvm.Cond.laysStatic "DoorBench" "CHOOSE" "[I" ∈ tables_1 := by decide +kernel
theorem z_ls_y : Jvm.Cond.laysStatic "DoorBench" "YES_SETS" "[J" ∈ tables_1 := by decide +kernel
theorem z_ls_k : Jvm.Cond.laysStatic "DoorBench" "KIND_ABOVE" "[I" ∈ tables_1 := by decide +kernel
theorem z_ini : Jvm.Cond.initialized "DoorBench" ∈ tables_1 := by decide +kernel
theorem z_a_c : Jvm.Cond.arrayOf (.static "DoorBench" "CHOOSE" "[I") .int ∈ z_flat := by decide +kernel
theorem z_a_k : Jvm.Cond.arrayOf (.static "DoorBench" "KIND_ABOVE" "[I") .int ∈ z_flat := by decide +kernel
theorem z_a_y : Jvm.Cond.arrayOf (.static "DoorBench" "YES_SETS" "[J") .long ∈ z_flat := by decide +kernel
theorem z_n_c : Jvm.Cond.eq (.length (.static "DoorBench" "CHOOSE" "[I")) (.int 102) ∈ z_flat := by decide +kernel
theorem z_n_k : Jvm.Cond.eq (.length (.static "DoorBench" "KIND_ABOVE" "[I")) (.int 8) ∈ z_flat := by decide +kernel
theorem z_n_y : Jvm.Cond.eq (.length (.static "DoorBench" "YES_SETS" "[J")) (.int 6) ∈ z_flat := by decide +kernel
/-- an array's class, of numbers -/
theorem z_kp {s : State} {args : Array Value} {ty : FieldType} (h : (Jvm.Cond.arrayClass ty).before args s = true) (hr : va_RA s 0 ty = (s.vm.findClass ("[" ++ ty.toString) = some 0)) (hr2 : ∀ q, va_RA s q ty = (s.vm.findClass ("[" ++ ty.toString) = some q)) : ∃ cA, ArrOfT s cA ty ∧ va_RA s cA ty := by
  obtain ⟨c, k, comp, h1, h2, h3⟩ := Cond.arrayClass_spec h
  exact ⟨c, fun n z => ⟨fun k h => (by cases h), k, h2, comp, h3⟩, by rw [hr2]; exact h1⟩
theorem z_ko {s : State} {args : Array Value} {C : String} (h : (Jvm.Cond.arrayOver (.object C)).before args s = true) : ∃ cA, ArrOfT s cA (.object C) ∧ va_RA s cA (.object C) := by
  obtain ⟨comp, c, k, h1, -, h2, h3, h4⟩ := Cond.arrayOver_spec h
  exact ⟨c, fun n z => ⟨fun k h => (by cases h), k, h2, comp, h3⟩, k, comp, h2, h3, h1, h4⟩
theorem z_K_start {s : State} {args : Array Value} (hts : ∀ w ∈ lw_tbl, w.before args s = true) : ∃ G, z_K G s := by
  have hk : ∀ ci : Nat, ∃ (cC : ClassId) (iS : Nat → Nat), ∀ q, z_cl[ci]? = some q → u_Kn s q.1 q.2.1 q.2.2 cC iS := by
    intro ci
    cases hw : z_cl[ci]? with
    | none => exact ⟨0, fun _ => 0, fun q h => by cases h⟩
    | some w =>
      have hl : ci < 13 := (List.getElem?_eq_some_iff.mp hw).1
      have hin : ∀ u ∈ u_ws w.1 w.2.1 w.2.2, u ∈ lw_tbl := fun u hu => (z_lay_all w (List.mem_of_getElem? hw) u hu).1
      have hi := z_inst_in ci hl
      have hn : z_nf ci = w.2.2 := by unfold z_nf; rw [hw]; rfl
      rw [← (z_okc_use hw).1, hn] at hi
      obtain ⟨cC, iS, h⟩ := u_known hts hin (hts _ (z_tb_1 hi))
      exact ⟨cC, iS, fun q hq => by cases hq; exact h⟩
  have ha : ∀ t : Nat, ∃ cA : ClassId, t < 4 → ArrOfT s cA (z_ty t) ∧ va_RA s cA (z_ty t) := by
    intro t
    match t with
    | 0 =>
      obtain ⟨cA, h⟩ := z_kp (hts _ (z_lw_in _ (z_arr_ok .int (Or.inl rfl)))) rfl (fun _ => rfl)
      exact ⟨cA, fun _ => h⟩
    | 1 =>
      obtain ⟨cA, h⟩ := z_kp (hts _ (z_lw_in _ (z_arr_ok .long (Or.inr rfl)))) rfl (fun _ => rfl)
      exact ⟨cA, fun _ => h⟩
    | 2 =>
      obtain ⟨cA, h⟩ := z_ko (hts _ (z_tb_1 z_ao_b))
      exact ⟨cA, fun _ => h⟩
    | t + 3 =>
      obtain ⟨cA, h⟩ := z_ko (hts _ (z_tb_1 z_ao_w))
      exact ⟨cA, fun _ => h⟩
  refine ⟨(fun ci => Classical.choose (hk ci), fun ci => Classical.choose (Classical.choose_spec (hk ci)), fun t => Classical.choose (ha t)), fun ci q hq => Classical.choose_spec (Classical.choose_spec (hk ci)) q hq, fun t ht => Classical.choose_spec (ha t) ht, fun w hw => ?_, va_AO.of (hts _ (z_tb_1 z_ao_b)), va_AO.of (hts _ (z_tb_1 z_ao_w))⟩
  have hb := hts _ (z_tb_1 (z_xw_in w hw))
  have ht : w.onTables = true := by
    simp only [z_xw, List.mem_cons, List.not_mem_nil, or_false] at hw
    rcases hw with rfl | rfl | rfl | rfl | rfl | rfl | rfl | rfl | rfl | rfl | rfl | rfl | rfl <;> rfl
  exact va_Nw.of ht hb
theorem z_R_start {s : State} {b L : Nat} {xs : Nat → Int32} (hL : L < 2 ^ 31) (hts : ∀ w ∈ lw_tbl, w.before #[Value.ref b] s = true) (hX : va_X b L xs s s.heap) (hbl : b < s.heap.size) (hgv : (Jvm.Cond.and given_1 narrow_1).before #[Value.ref b] s = true) : ∃ r, r 0 = b ∧ z_R r (z_A s.heap.size) (z_M0 L xs) s s.heap := by
  have hs := flat_of_before _ hgv
  have hA : ∀ a : Nat, a < s.heap.size → ¬ z_A s.heap.size a := fun a ha => Nat.not_le.mpr ha
  obtain ⟨t1, e1, g1⟩ := va_Tof (N := 102) (f := fun j => .int (z_tc.getD j 0)) (by decide) (hs _ z_a_c) (va_eqt (hs _ z_n_c)) (fun j hj => va_eqt (hs _ (z_el_c j hj))) hA
  obtain ⟨t2, e2, g2⟩ := va_Tof (N := 6) (f := fun j => .long (z_ty2.getD j 0)) (by decide) (hs _ z_a_y) (va_eqt (hs _ z_n_y)) (fun j hj => va_eqtl (hs _ (z_el_y j hj))) hA
  obtain ⟨t3, e3, g3⟩ := va_Tof (N := 8) (f := fun j => .int (z_tk3.getD j 0)) (by decide) (hs _ z_a_k) (va_eqt (hs _ z_n_k)) (fun j hj => va_eqt (hs _ (z_el_k j hj))) hA
  have hi := hts _ (z_tb_1 z_ini)
  refine ⟨fun k => match k with | 0 => b | 1 => t1 | 2 => t2 | _ => t3, rfl, va_Zref (hts _ (z_tb_1 z_ls_c)) hi e1 hA, va_Zref (hts _ (z_tb_1 z_ls_y)) hi e2 hA, va_Zref (hts _ (z_tb_1 z_ls_k)) hi e3 hA, fun k e he => ?_⟩
  match k, he with
  | 0, he =>
    cases he
    obtain ⟨scr, h1, h2, h3, h4, h5⟩ := hX
    exact ⟨rfl, scr, h1, h2, h3, by omega, by rw [h4] <;> rfl, h5, hA b hbl⟩
  | 1, he => cases he; exact ⟨rfl, g1⟩
  | 2, he => cases he; exact ⟨rfl, g2⟩
  | 3, he => cases he; exact ⟨rfl, g3⟩
  | k + 4, he => simp [z_M0] at he
/-- THE LAW, out of a run of the mini-VM -/
theorem z_law {p : Program} {e : Env} {s : State} {m : MethodId} {below : List Frame} {meth : Method} {c : Code} (l : Launch) {b L : Nat} {xs : Nat → Int32} (hL : L < 2 ^ 31) (C0 : lw_At p s m meth c b L xs) {n d : Nat} {M1 : zH} (hrun : z_run n d 0 0 (z_ent [.ref 0] 4) [] (z_M0 L xs) = some (some (.int 1), M1)) (hd : d ≤ 2047) (hc : M1.length ≤ 600000) (hs : z_sz M1 ≤ 7302250) :
    W p l e room_1 s m #[Value.ref b] below meth c s.heap [] 0 0 (lw_Z below #[Value.ref b] s) (entryFrame m ([Value.ref b] : List Value).toArray 4) := by
  obtain ⟨hx, hb, hr, hml, hown, hts, hX, hbl, hlocks, hgv⟩ := C0
  obtain ⟨G, hK⟩ := z_K_start hts
  obtain ⟨r, hr0, hR⟩ := z_R_start hL hts hX hbl hgv
  have hRl : z_Rl G r s.heap.size (z_M0 L xs) s.heap (z_M0 L xs) s.heap [] := ⟨rfl, Nat.le_refl 4, rfl, fun k e hk he => by
    have := (List.getElem?_eq_some_iff.mp he).1
    exact absurd this (Nat.not_lt.mpr hk), va_S.rf, Nat.le_refl _⟩
  have X : z_Cx G p s m #[Value.ref b] meth c 0 := ⟨hx, hb, hml, hown, fun w hw => hts w (z_lw_in w hw), fun h => absurd h (by decide +kernel), hK⟩
  have hl := z_lv_entry (z_ad r s.heap.size) [.ref 0] (n := 4) (by decide)
  have hsh : ([.ref 0] : List Value).map (z_sh (z_ad r s.heap.size)) = [.ref b] := by
    show [Value.ref (z_ad r s.heap.size 0)] = _
    rw [z_ad_lt (by decide), hr0]
  rw [hsh] at hl
  rw [lg_entry_eq]
  refine z_sound l G r s.heap.size (z_M0 L xs) n X hR hRl hl hrun ?_ ?_ ?_ ?_ ?_
  · show 0 + _ ≤ 600000
    omega
  · show 0 + _ ≤ 7302250
    omega
  · show d + 1 ≤ 2048
    omega
  · show 40 * (d + 1) ≤ 84000
    omega
  · intro pc2 len i S2 H2 locs2 ls2 hdg hlen he hRl2
    have key : i = .ireturn ∧ S2 = [.int 1] := by
      unfold z_end at he
      split at he
      · rename_i q; exact absurd q (by decide)
      · rename_i q; exact absurd q (by decide)
      · split at he
        · cases he; exact ⟨rfl, rfl⟩
        · cases he
      · rename_i q; exact absurd q (by decide)
      · rename_i q; cases (show (some FieldType.boolean) = _ from q)
      · rename_i q; cases (show (some FieldType.boolean) = _ from q)
      · cases he
    obtain ⟨rfl, rfl⟩ := key
    obtain rfl : len = 1 := hlen
    refine va_forget (fun q hq => hRl2.2.2.2.2.1.2.2 q hq) ?_
    refine W.widen (k := 600000) (n := 7302250) (by omega) (by omega) ?_
    exact lw_ret hx hb hr hlocks hdg
end
section
/-! runs in the continuation's style: 'from this place the method comes to an answer and a heap with K' -/
def z_ev (d j pc : Nat) (L : zL) (S : zS) (M : zH) (K : Option Value → zH → Prop) : Prop := ∃ n v M1, z_run n d j pc L S M = some (v, M1) ∧ K v M1
theorem z_run_s : ∀ (n d j pc : Nat) (L : zL) (S : zS) (M : zH) (q : Option Value × zH), z_run n d j pc L S M = some q → z_run (n + 1) d j pc L S M = some q
  | 0, d, j, pc, L, S, M, q, h => by cases h
  | n + 1, d, j, pc, L, S, M, q, h => by
    rw [z_run] at h
    rw [z_run]
    split at h
    · cases h
    · split at h
      · rename_i hlen
        rw [if_pos hlen]
        split at h
        · exact h
        · split at h
          · exact z_run_s n _ _ _ _ _ _ _ h
          · split at h
            · split at h
              · rename_i hg
                rw [if_pos hg]
                split at h
                · rename_i h1
                  rw [z_run_s n _ _ _ _ _ _ _ h1]
                  exact z_run_s n _ _ _ _ _ _ _ h
                · cases h
              · cases h
            · cases h
      · cases h
theorem z_run_up {n d j pc : Nat} {L : zL} {S : zS} {M : zH} {q : Option Value × zH} (h : z_run n d j pc L S M = some q) : ∀ k, z_run (n + k) d j pc L S M = some q
  | 0 => h
  | k + 1 => z_run_s _ _ _ _ _ _ _ _ (z_run_up h k)
theorem z_ev.mono {d j pc : Nat} {L : zL} {S : zS} {M : zH} {K K2 : Option Value → zH → Prop} (h : z_ev d j pc L S M K) (hk : ∀ v M1, K v M1 → K2 v M1) : z_ev d j pc L S M K2 := by
  obtain ⟨n, v, M1, h1, h2⟩ := h
  exact ⟨n, v, M1, h1, hk _ _ h2⟩
theorem z_o3 {p q : Prop} {a : Nat} (hi : ¬ (p ∨ q)) (ha : 4 ≤ a) : ¬ (p ∨ q ∨ a < 4) := fun h => h.elim (fun z => hi (Or.inl z)) fun z => z.elim (fun z => hi (Or.inr z)) fun z => absurd ha (Nat.not_le.mpr z)
theorem z_o4 {p q : Prop} {a t : Nat} (hi : ¬ (p ∨ q)) (ha : 4 ≤ a) (ht : 2 ≤ t) : ¬ (p ∨ q ∨ a < 4 ∨ t < 2) := fun h => h.elim (fun z => hi (Or.inl z)) fun z => z.elim (fun z => hi (Or.inr z)) fun z => z.elim (fun z => absurd ha (Nat.not_le.mpr z)) fun z => absurd ht (Nat.not_le.mpr z)
theorem z_o5 {p q u : Prop} {a v : Nat} (hi : ¬ (p ∨ q)) (ha : 4 ≤ a) (hv : 4 ≤ v) (hu : u) : ¬ (p ∨ q ∨ a < 4 ∨ v < 4 ∨ ¬ u) := fun h => h.elim (fun z => hi (Or.inl z)) fun z => z.elim (fun z => hi (Or.inr z)) fun z => z.elim (fun z => absurd ha (Nat.not_le.mpr z)) fun z => z.elim (fun z => absurd hv (Nat.not_le.mpr z)) fun z => z hu
section ZEV
variable {d j pc len pc1 : Nat} {i : Instr} {L L1 : zL} {S S1 r : zS} {M M1 : zH} {K : Option Value → zH → Prop}
theorem z_est (hd : decode (z_b j) pc = .ok (i, len)) (hl : len = z_len i len) (he : z_end j i S = none) (hs : z_st j i pc L S M = some (pc1, L1, S1, M1)) (k : z_ev d j pc1 L1 S1 M1 K) : z_ev d j pc L S M K := by
  obtain ⟨n, v, M2, h1, h2⟩ := k
  refine ⟨n + 1, v, M2, ?_, h2⟩
  rw [z_run, hd]
  simp only [he, hs]
  rw [if_pos hl]
  exact h1
/-- an instruction over numbers, locals, the stack -/
theorem z_e1 (hd : decode (z_b j) pc = .ok (i, len)) (hl : len = z_len i len) (he : z_end j i S = none) (hs : z_s1 i pc L S = some (pc1, L1, S1)) (k : z_ev d j pc1 L1 S1 M K) : z_ev d j pc L S M K :=
  z_est hd hl he (by unfold z_st; rw [hs]) k
/-- .. over the heap -/
theorem z_e2 (hd : decode (z_b j) pc = .ok (i, len)) (hl : len = z_len i len) (he : z_end j i S = none) (h1 : z_s1 i pc L S = none) (hs : z_s2 (z_oc j) ((z_name j).name == "<init>") i pc S M = some (pc1, S1, M1)) (k : z_ev d j pc1 L S1 M1 K) : z_ev d j pc L S M K :=
  z_est hd hl he (by unfold z_st; rw [h1, hs]) k
theorem z_e3 (hd : decode (z_b j) pc = .ok (i, len)) (hl : len = z_len i len) (he : z_end j i S = none) (h1 : z_s1 i pc L S = none) (h2 : z_s2 (z_oc j) ((z_name j).name == "<init>") i pc S M = none) (hs : z_s3 (z_oc j) i pc S M = some (pc1, S1, M1)) (k : z_ev d j pc1 L S1 M1 K) : z_ev d j pc L S M K :=
  z_est hd hl he (by unfold z_st; rw [h1, h2, hs]) k
theorem z_ej {c : ClassFile.Cond} {off : Int} {t t2 : Nat} {x y : Int32} (hd : decode (z_b j) pc = .ok (.if_icmp c off, 3)) (ht : z_tg pc off = some t) (hb : z_br c x y t (pc + 3) = t2) (k : z_ev d j t2 L r M K) : z_ev d j pc L (.int y :: .int x :: r) M K :=
  z_e1 hd rfl rfl (by simp only [z_s1, ht]) (hb ▸ k)
theorem z_ez {c : ClassFile.Cond} {off : Int} {t t2 : Nat} {x : Int32} (hd : decode (z_b j) pc = .ok (.ifCond c off, 3)) (ht : z_tg pc off = some t) (hb : z_br c x 0 t (pc + 3) = t2) (k : z_ev d j t2 L r M K) : z_ev d j pc L (.int x :: r) M K :=
  z_e1 hd rfl rfl (by simp only [z_s1, ht]) (hb ▸ k)
def z_fF (c i : Nat) : Option ((Nat × List Nat) × String) := (z_find z_fl c i).map fun q => (q.1, q.2.1.2.1)
theorem z_fF_use {c i : Nat} {q : (Nat × List Nat) × String} (h : z_fF c i = some q) : ∃ z, z_find z_fl c i = some z ∧ z.1 = q.1 ∧ z.2.1.2.1 = q.2 := by
  obtain ⟨z, h1, h2⟩ := Option.map_eq_some_iff.mp h
  exact ⟨z, h1, by rw [← h2], by rw [← h2]⟩
theorem z_egf {idx a k ci : Nat} {cis : List Nat} {dc : String} {fs : List Value} {v : Value} (hd : decode (z_b j) pc = .ok (.getfield idx, 3)) (hq : z_fF (z_oc j) idx = some ((k, cis), dc)) (hM : M[a]? = some (.inr (ci, fs))) (hc : ci ∈ cis) (ha : 4 ≤ a) (hv : fs[k]? = some v) (kk : z_ev d j (pc + 3) L (v :: r) M K) : z_ev d j pc L (.ref a :: r) M K := by
  obtain ⟨z, h1, h2, h3⟩ := z_fF_use hq
  refine z_e2 hd rfl rfl rfl ?_ kk
  simp only [z_s2, hM, h1, h2]
  rw [if_pos ⟨hc, ha⟩, hv]
  rfl
theorem z_epf {idx a k ci : Nat} {cis : List Nat} {dc : String} {fs : List Value} {v : Value} (hd : decode (z_b j) pc = .ok (.putfield idx, 3)) (hq : z_fF (z_oc j) idx = some ((k, cis), dc)) (hM : M[a]? = some (.inr (ci, fs))) (hc : ci ∈ cis) (ha : 4 ≤ a) (hf : z_fit (z_fty ci k) v = true) (hl : k < fs.length) (hw : ((z_cl[ci]?).map fun w => (w.2.1 k).2.2.2) = some false ∨ (((z_name j).name == "<init>") = true ∧ dc = z_cn (z_oc j))) (kk : z_ev d j (pc + 3) L r (M.set a (.inr (ci, fs.set k v))) K) : z_ev d j pc L (v :: .ref a :: r) M K := by
  obtain ⟨z, h1, h2, h3⟩ := z_fF_use hq
  refine z_e2 hd rfl rfl rfl ?_ kk
  simp only [z_s2, hM, h1, h2, h3]
  rw [if_pos ⟨hc, ha, hf, hl, hw⟩]
theorem z_eial {a n : Nat} {f : Nat → Int32} {x y : Int32} (hd : decode (z_b j) pc = .ok (.iaload, 1)) (hM : M[a]? = some (.inl (0, n, .inl f))) (hi : ¬ (x < 0 ∨ n ≤ x.toNatClampNeg)) (hv : f x.toNatClampNeg = y) (kk : z_ev d j (pc + 1) L (.int y :: r) M K) : z_ev d j pc L (.int x :: .ref a :: r) M K := by
  refine z_e2 hd rfl rfl rfl ?_ kk
  simp only [z_s2, hM]
  rw [if_neg hi, hv]
theorem z_elal {a n : Nat} {f : Nat → Int64} {x : Int32} {y : Int64} (hd : decode (z_b j) pc = .ok (.laload, 1)) (hM : M[a]? = some (.inl (1, n, .inr (.inl f)))) (hi : ¬ (x < 0 ∨ n ≤ x.toNatClampNeg)) (hv : f x.toNatClampNeg = y) (kk : z_ev d j (pc + 1) L (.long y :: r) M K) : z_ev d j pc L (.int x :: .ref a :: r) M K := by
  refine z_e2 hd rfl rfl rfl ?_ kk
  simp only [z_s2, hM]
  rw [if_neg hi, hv]
theorem z_eaal {a t n : Nat} {f : Nat → Option Nat} {x : Int32} {y : Option Nat} (hd : decode (z_b j) pc = .ok (.aaload, 1)) (hM : M[a]? = some (.inl (t, n, .inr (.inr f)))) (hi : ¬ (x < 0 ∨ n ≤ x.toNatClampNeg)) (ha : 4 ≤ a) (ht : 2 ≤ t) (hv : f x.toNatClampNeg = y) (kk : z_ev d j (pc + 1) L (va_rf y :: r) M K) : z_ev d j pc L (.int x :: .ref a :: r) M K := by
  refine z_e2 hd rfl rfl rfl ?_ kk
  simp only [z_s2, hM]
  rw [if_neg (z_o4 hi ha ht), hv]
theorem z_eias {a n : Nat} {f : Nat → Int32} {x v : Int32} (hd : decode (z_b j) pc = .ok (.iastore, 1)) (hM : M[a]? = some (.inl (0, n, .inl f))) (hi : ¬ (x < 0 ∨ n ≤ x.toNatClampNeg)) (ha : 4 ≤ a) (kk : z_ev d j (pc + 1) L r (M.set a (.inl (0, n, .inl (upd f x.toNatClampNeg v)))) K) : z_ev d j pc L (.int v :: .int x :: .ref a :: r) M K := by
  refine z_e2 hd rfl rfl rfl ?_ kk
  simp only [z_s2, hM]
  rw [if_neg (z_o3 hi ha)]
theorem z_elas {a n : Nat} {f : Nat → Int64} {x : Int32} {v : Int64} (hd : decode (z_b j) pc = .ok (.lastore, 1)) (hM : M[a]? = some (.inl (1, n, .inr (.inl f)))) (hi : ¬ (x < 0 ∨ n ≤ x.toNatClampNeg)) (ha : 4 ≤ a) (kk : z_ev d j (pc + 1) L r (M.set a (.inl (1, n, .inr (.inl (z_updL f x.toNatClampNeg v))))) K) : z_ev d j pc L (.long v :: .int x :: .ref a :: r) M K := by
  refine z_e2 hd rfl rfl rfl ?_ kk
  simp only [z_s2, hM]
  rw [if_neg (z_o3 hi ha)]
theorem z_easN {a t n : Nat} {f : Nat → Option Nat} {x : Int32} (hd : decode (z_b j) pc = .ok (.aastore, 1)) (hM : M[a]? = some (.inl (t, n, .inr (.inr f)))) (hi : ¬ (x < 0 ∨ n ≤ x.toNatClampNeg)) (ha : 4 ≤ a) (ht : 2 ≤ t) (kk : z_ev d j (pc + 1) L r (M.set a (.inl (t, n, .inr (.inr (z_updR f x.toNatClampNeg none))))) K) : z_ev d j pc L (.null :: .int x :: .ref a :: r) M K := by
  refine z_e2 hd rfl rfl rfl ?_ kk
  simp only [z_s2, hM]
  rw [if_neg (z_o4 hi ha ht)]
theorem z_eas {a t n v ci : Nat} {fs : List Value} {f : Nat → Option Nat} {x : Int32} (hd : decode (z_b j) pc = .ok (.aastore, 1)) (hM : M[a]? = some (.inl (t, n, .inr (.inr f)))) (hV : M[v]? = some (.inr (ci, fs))) (hi : ¬ (x < 0 ∨ n ≤ x.toNatClampNeg)) (ha : 4 ≤ a) (hv4 : 4 ≤ v) (ht : (t = 2 ∧ ci = 3) ∨ (t = 3 ∧ 4 ≤ ci ∧ ci ≤ 11)) (kk : z_ev d j (pc + 1) L r (M.set a (.inl (t, n, .inr (.inr (z_updR f x.toNatClampNeg (some v)))))) K) : z_ev d j pc L (.ref v :: .int x :: .ref a :: r) M K := by
  refine z_e2 hd rfl rfl rfl ?_ kk
  simp only [z_s2, hM, hV]
  rw [if_neg (z_o5 hi ha hv4 ht)]
theorem z_ealn {a t n : Nat} {x} (hd : decode (z_b j) pc = .ok (.arraylength, 1)) (hM : M[a]? = some (.inl (t, n, x))) {y : Int32} (hy : Int32.ofNat n = y) (kk : z_ev d j (pc + 1) L (.int y :: r) M K) : z_ev d j pc L (.ref a :: r) M K := by
  refine z_e2 hd rfl rfl rfl ?_ kk
  simp only [z_s2, hM]
  rw [hy]
theorem z_eldc {idx : Nat} {y : Int32} (hd : decode (z_b j) pc = .ok (.ldc idx, 2)) (hq : (z_find z_ld (z_oc j) idx).map (·.1) = some y) (kk : z_ev d j (pc + 2) L (.int y :: S) M K) : z_ev d j pc L S M K := by
  obtain ⟨z, h1, h2⟩ := Option.map_eq_some_iff.mp hq
  refine z_e2 hd rfl rfl rfl ?_ kk
  simp only [z_s2, h1]
  rw [← h2]
  rfl
theorem z_eldw {idx : Nat} {y : Int32} (hd : decode (z_b j) pc = .ok (.ldc_w idx, 3)) (hq : (z_find z_ld (z_oc j) idx).map (·.1) = some y) (kk : z_ev d j (pc + 3) L (.int y :: S) M K) : z_ev d j pc L S M K := by
  obtain ⟨z, h1, h2⟩ := Option.map_eq_some_iff.mp hq
  refine z_e2 hd rfl rfl rfl ?_ kk
  simp only [z_s2, h1]
  rw [← h2]
  rfl
theorem z_eld2 {idx : Nat} {y : Int64} (hd : decode (z_b j) pc = .ok (.ldc2_w idx, 3)) (hq : (z_find z_l2 (z_oc j) idx).map (·.1) = some y) (kk : z_ev d j (pc + 3) L (.long y :: S) M K) : z_ev d j pc L S M K := by
  obtain ⟨z, h1, h2⟩ := Option.map_eq_some_iff.mp hq
  refine z_e2 hd rfl rfl rfl ?_ kk
  simp only [z_s2, h1]
  rw [← h2]
  rfl
theorem z_egs {idx k : Nat} (hd : decode (z_b j) pc = .ok (.getstatic idx, 3)) (hq : (z_find z_gs (z_oc j) idx).map (·.1) = some k) (kk : z_ev d j (pc + 3) L (.ref k :: S) M K) : z_ev d j pc L S M K := by
  obtain ⟨z, h1, h2⟩ := Option.map_eq_some_iff.mp hq
  refine z_e2 hd rfl rfl rfl ?_ kk
  simp only [z_s2, h1]
  rw [← h2]
  rfl
theorem z_enew {idx ci N : Nat} {fs : List Value} (hd : decode (z_b j) pc = .ok (.new idx, 3)) (hq : (z_find z_nw (z_oc j) idx).map (·.1) = some ci) (hb : z_blank ci = fs) (hN : M.length = N) (kk : z_ev d j (pc + 3) L (.ref N :: S) (M ++ [.inr (ci, fs)]) K) : z_ev d j pc L S M K := by
  obtain ⟨z, h1, h2⟩ := Option.map_eq_some_iff.mp hq
  refine z_e2 hd rfl rfl rfl ?_ kk
  simp only [z_s2, h1]
  rw [← h2] at hb
  rw [← h2, ← hb, ← hN]
  rfl
/-- Object's own start -/
theorem z_eoi {idx n : Nat} {tg : List (Nat × Nat)} {a : Nat} (hd : decode (z_b j) pc = .ok (.invokespecial idx, 3)) (hq : (z_find z_cI (z_oc j) idx).map (·.1) = some (7, n, tg)) (hw : z_ws r ≤ 8) (kk : z_ev d j (pc + 3) L r M K) : z_ev d j pc L (.ref a :: r) M K := by
  obtain ⟨⟨z1, z2⟩, h1, h2⟩ := Option.map_eq_some_iff.mp hq
  cases h2
  refine z_e3 hd rfl rfl rfl rfl ?_ kk
  simp only [z_s3, h1]
  rw [if_pos hw]
theorem z_emx {idx n : Nat} {tg : List (Nat × Nat)} {x y : Int32} (hd : decode (z_b j) pc = .ok (.invokestatic idx, 3)) (hq : (z_find z_cS (z_oc j) idx).map (·.1) = some (10, n, tg)) (hw : z_ws r ≤ 8) (kk : z_ev d j (pc + 3) L (.int (if x < y then y else x) :: r) M K) : z_ev d j pc L (.int y :: .int x :: r) M K := by
  obtain ⟨⟨z1, z2⟩, h1, h2⟩ := Option.map_eq_some_iff.mp hq
  cases h2
  refine z_e3 hd rfl rfl rfl rfl ?_ kk
  simp only [z_s3, h1]
  rw [if_pos hw]
theorem z_emn {idx n : Nat} {tg : List (Nat × Nat)} {x y : Int32} (hd : decode (z_b j) pc = .ok (.invokestatic idx, 3)) (hq : (z_find z_cS (z_oc j) idx).map (·.1) = some (11, n, tg)) (hw : z_ws r ≤ 8) (kk : z_ev d j (pc + 3) L (.int (if y < x then y else x) :: r) M K) : z_ev d j pc L (.int y :: .int x :: r) M K := by
  obtain ⟨⟨z1, z2⟩, h1, h2⟩ := Option.map_eq_some_iff.mp hq
  cases h2
  refine z_e3 hd rfl rfl rfl rfl ?_ kk
  simp only [z_s3, h1]
  rw [if_pos hw]
/-- the ends -/
theorem z_eend {v : Option Value} (hd : decode (z_b j) pc = .ok (i, len)) (hl : len = z_len i len) (he : z_end j i S = some v) (k : K v M) : z_ev d j pc L S M K := by
  refine ⟨1, v, M, ?_, k⟩
  rw [z_run, hd]
  simp only [he]
  rw [if_pos hl]
theorem z_eri {x : Int32} (hd : decode (z_b j) pc = .ok (.ireturn, 1)) (hr : z_rt j = some .int) (k : K (some (.int x)) M) : z_ev d j pc L [.int x] M K := z_eend hd rfl (by unfold z_end; rw [hr]) k
theorem z_erz {x : Int32} (hd : decode (z_b j) pc = .ok (.ireturn, 1)) (hr : z_rt j = some .boolean) (hx : x = 0 ∨ x = 1) (k : K (some (.int x)) M) : z_ev d j pc L [.int x] M K := z_eend hd rfl (by unfold z_end; rw [hr]; exact if_pos hx) k
theorem z_erl {x : Int64} (hd : decode (z_b j) pc = .ok (.lreturn, 1)) (hr : z_rt j = some .long) (k : K (some (.long x)) M) : z_ev d j pc L [.long x] M K := z_eend hd rfl (by unfold z_end; rw [hr]) k
theorem z_era {a : Nat} {C : String} (hd : decode (z_b j) pc = .ok (.areturn, 1)) (hr : z_rt j = some (.object C)) (k : K (some (.ref a)) M) : z_ev d j pc L [.ref a] M K := z_eend hd rfl (by unfold z_end; rw [hr]) k
theorem z_ern {C : String} (hd : decode (z_b j) pc = .ok (.areturn, 1)) (hr : z_rt j = some (.object C)) (k : K (some .null) M) : z_ev d j pc L [.null] M K := z_eend hd rfl (by unfold z_end; rw [hr]) k
theorem z_erv (hd : decode (z_b j) pc = .ok (.return_, 1)) (hr : z_rt j = none) (k : K none M) : z_ev d j pc L [] M K := z_eend hd rfl (by unfold z_end; rw [hr]) k
/-- what comes behind a call -/
def z_go (d j pc : Nat) (L : zL) (r : zS) (K : Option Value → zH → Prop) : Option Value → zH → Prop := fun v M1 => z_ev d j pc L (v.toList ++ r) M1 K
theorem z_ecall {kd k : Nat} {vs : List Value} (hd : decode (z_b j) pc = .ok (i, 3)) (hl : 3 = z_len i 3) (he : z_end j i S = none) (hs : z_st j i pc L S M = none) (hc : z_call (z_oc j) i S M = some (kd, k, vs, r)) (hg : z_ws r ≤ 8 ∧ kd ≠ 9 ∧ kd ≠ 8 ∧ (z_ent vs 0).length ≤ z_ml k) (kk : z_ev d k 0 (z_ent vs (z_ml k)) [] M (z_go (d + 1) j (pc + 3) L r K)) : z_ev (d + 1) j pc L S M K := by
  obtain ⟨n1, v1, M1, h1, n2, v2, M2, h2, h3⟩ := kk
  refine ⟨n1 + n2 + 1, v2, M2, ?_, h3⟩
  rw [z_run, hd]
  simp only [he, hs, hc]
  rw [if_pos hl, if_pos hg, z_run_up h1 n2]
  show z_run (n1 + n2) _ _ _ _ _ _ = _
  rw [Nat.add_comm]
  exact z_run_up h2 n1
theorem z_ecS {idx kd n t k n2 : Nat} {vs : List Value} {L2 : zL} (hd : decode (z_b j) pc = .ok (.invokestatic idx, 3)) (hq : (z_find z_cS (z_oc j) idx).map (·.1) = some (kd, n, [(t, k)])) (hkd : kd = 0 ∨ kd = 5) (hn : n ≤ S.length) (hv : (S.take n).reverse = vs) (hr : S.drop n = r) (hw : z_ws r ≤ 8) (hm : z_ml k = n2) (he : (z_ent vs 0).length ≤ n2) (hL : z_ent vs n2 = L2) (kk : z_ev d k 0 L2 [] M (z_go (d + 1) j (pc + 3) L r K)) : z_ev (d + 1) j pc L S M K := by
  obtain ⟨⟨z1, z2⟩, h1, h2⟩ := Option.map_eq_some_iff.mp hq
  cases h2
  subst hm
  refine z_ecall (kd := kd) (k := k) (vs := vs) hd rfl (by cases S <;> rfl) ?_ ?_ ⟨hw, by omega, by omega, he⟩ (hL ▸ kk)
  · unfold z_st
    simp only [z_s1, z_s2, z_s3, h1]
    rcases hkd with rfl | rfl <;> rfl
  · simp only [z_call, h1]
    rw [if_pos hn, hv, hr]
theorem z_ecV {idx kd n b ci k n2 : Nat} {tg : List (Nat × Nat)} {fs vs : List Value} {L2 : zL} (hd : decode (z_b j) pc = .ok (.invokevirtual idx, 3)) (hq : (z_find z_cV (z_oc j) idx).map (·.1) = some (kd, n, tg)) (hkd : kd = 1 ∨ kd = 2) (hS : S[n]? = some (.ref b)) (hM : M[b]? = some (.inr (ci, fs))) (hb : 4 ≤ b) (ht : (tg.find? fun t => t.1 == ci) = some (ci, k)) (hv : .ref b :: (S.take n).reverse = vs) (hr : S.drop (n + 1) = r) (hw : z_ws r ≤ 8) (hm : z_ml k = n2) (he : (z_ent vs 0).length ≤ n2) (hL : z_ent vs n2 = L2) (kk : z_ev d k 0 L2 [] M (z_go (d + 1) j (pc + 3) L r K)) : z_ev (d + 1) j pc L S M K := by
  obtain ⟨⟨z1, z2⟩, h1, h2⟩ := Option.map_eq_some_iff.mp hq
  cases h2
  subst hm
  refine z_ecall (kd := kd) (k := k) (vs := vs) hd rfl (by cases S <;> rfl) rfl ?_ ⟨hw, by omega, by omega, he⟩ (hL ▸ kk)
  simp only [z_call, h1, hS, hM]
  rw [if_pos hb, ht, ← hv, ← hr]
  rfl
theorem z_ecI {idx kd n b t k ci n2 : Nat} {fs vs : List Value} {L2 : zL} (hd : decode (z_b j) pc = .ok (.invokespecial idx, 3)) (hq : (z_find z_cI (z_oc j) idx).map (·.1) = some (kd, n, [(t, k)])) (hkd : kd = 3 ∨ kd = 4 ∨ kd = 6) (hS : S[n]? = some (.ref b)) (hM : M[b]? = some (.inr (ci, fs))) (hb : 4 ≤ b) (hv : .ref b :: (S.take n).reverse = vs) (hr : S.drop (n + 1) = r) (hw : z_ws r ≤ 8) (hm : z_ml k = n2) (he : (z_ent vs 0).length ≤ n2) (hL : z_ent vs n2 = L2) (kk : z_ev d k 0 L2 [] M (z_go (d + 1) j (pc + 3) L r K)) : z_ev (d + 1) j pc L S M K := by
  obtain ⟨⟨z1, z2⟩, h1, h2⟩ := Option.map_eq_some_iff.mp hq
  cases h2
  subst hm
  refine z_ecall (kd := kd) (k := k) (vs := vs) hd rfl (by cases S <;> rfl) ?_ ?_ ⟨hw, by omega, by omega, he⟩ (hL ▸ kk)
  · unfold z_st
    simp only [z_s1, z_s2, z_s3, h1]
    rcases hkd with rfl | rfl | rfl <;> rfl
  · simp only [z_call, h1, hS, hM]
    rw [if_pos hb, ← hv, ← hr]
/-- reading a heap that was written -/
theorem z_gn {a b : Nat} {e : zE} {o : Option zE} (h : a ≠ b) (hM : M[b]? = o) : (M.set a e)[b]? = o := by rw [List.getElem?_set_ne h]; exact hM
theorem z_gs1 {a : Nat} {e e0 : zE} (hM : M[a]? = some e0) : (M.set a e)[a]? = some e := by
  rw [List.getElem?_set]
  simp [(List.getElem?_eq_some_iff.mp hM).1]
theorem z_gp {b : Nat} {e e0 : zE} (hM : M[b]? = some e0) : (M ++ [e])[b]? = some e0 := by
  rw [List.getElem?_append_left (List.getElem?_eq_some_iff.mp hM).1]
  exact hM
theorem z_gl {N : Nat} {e : zE} (hN : M.length = N) : (M ++ [e])[N]? = some e := by
  rw [← hN, List.getElem?_append_right (Nat.le_refl _), Nat.sub_self]
  rfl
end ZEV
end
section
/-! a run that never looks at cell 0 doesn't depend on it -/
def z_hole : zE := .inr (99, [])
theorem z_h0 {M : zH} {a : Nat} {e : zE} {o : Option zE} (ha : a ≠ 0) (h : M[a]? = o) : (M.set 0 e)[a]? = o := by rw [List.getElem?_set_ne (Ne.symm ha)]; exact h
theorem z_hs {M : zH} {a : Nat} {e x : zE} (ha : a ≠ 0) : (M.set 0 e).set a x = (M.set a x).set 0 e := List.set_comm _ _ (Ne.symm ha)
theorem z_hl {M : zH} {a t n : Nat} {f} (h0 : M[0]? = some z_hole) (h : M[a]? = some (.inl (t, n, f))) : a ≠ 0 := by
  rintro rfl
  rw [h0] at h
  cases h
theorem z_hp {M : zH} {e x : zE} (h0 : M[0]? = some z_hole) : M.set 0 e ++ [x] = (M ++ [x]).set 0 e := by
  have hl : 0 < M.length := (List.getElem?_eq_some_iff.mp h0).1
  rw [List.set_append_left _ _ hl]
theorem z_hp0 {M : zH} {x : zE} (h0 : M[0]? = some z_hole) : (M ++ [x])[0]? = some z_hole := by
  rw [List.getElem?_append_left (List.getElem?_eq_some_iff.mp h0).1]
  exact h0
theorem z_s2_ind {c : Nat} {b : Bool} {i : Instr} {pc pc1 : Nat} {S S1 : zS} {M M1 : zH} {e : zE} (h0 : M[0]? = some z_hole) (h : z_s2 c b i pc S M = some (pc1, S1, M1)) : z_s2 c b i pc S (M.set 0 e) = some (pc1, S1, M1.set 0 e) ∧ M1[0]? = some z_hole := by
  have more : ∀ {q : Nat} {x : zE}, M.length = q → (M.set 0 e).length = q := fun hq => by rw [List.length_set]; exact hq
  cases i
  case ldc k => obtain ⟨q, hq, h⟩ := Option.map_eq_some_iff.mp h; cases h; exact ⟨by simp only [z_s2, hq]; rfl, h0⟩
  case ldc_w k => obtain ⟨q, hq, h⟩ := Option.map_eq_some_iff.mp h; cases h; exact ⟨by simp only [z_s2, hq]; rfl, h0⟩
  case ldc2_w k => obtain ⟨q, hq, h⟩ := Option.map_eq_some_iff.mp h; cases h; exact ⟨by simp only [z_s2, hq]; rfl, h0⟩
  case getstatic k => obtain ⟨q, hq, h⟩ := Option.map_eq_some_iff.mp h; cases h; exact ⟨by simp only [z_s2, hq]; rfl, h0⟩
  case new k => obtain ⟨q, hq, h⟩ := Option.map_eq_some_iff.mp h; cases h; exact ⟨by simp only [z_s2, hq, List.length_set, z_hp h0]; rfl, z_hp0 h0⟩
  all_goals dsimp only [z_s2] at h
  all_goals try (cases h; done)
  case getfield k =>
    split at h
    · split at h
      · rename_i hM hq
        split at h
        · rename_i hc
          obtain ⟨v, hv, h⟩ := Option.map_eq_some_iff.mp h
          cases h
          have ha : ∀ {a : Nat}, 4 ≤ a → a ≠ 0 := fun h => by omega
          refine ⟨?_, h0⟩
          simp only [z_s2, z_h0 (ha hc.2) hM, hq]
          rw [if_pos hc, hv]
          rfl
        · cases h
      · cases h
    · cases h
  case putfield k =>
    split at h
    · split at h
      · rename_i hM hq
        split at h
        · rename_i hc
          cases h
          have ha : ∀ {a : Nat}, 4 ≤ a → a ≠ 0 := fun h => by omega
          refine ⟨?_, by rw [List.getElem?_set_ne (ha hc.2.1)]; exact h0⟩
          simp only [z_s2, z_h0 (ha hc.2.1) hM, hq]
          rw [if_pos hc, z_hs (ha hc.2.1)]
        · cases h
      · cases h
    · cases h
  case newarray t =>
    split at h
    · split at h
      · cases h
      · rename_i hn
        split at h
        · cases h
          refine ⟨?_, z_hp0 h0⟩
          simp only [z_s2]
          rw [if_neg hn, List.length_set, z_hp h0]
        · cases h
          refine ⟨?_, z_hp0 h0⟩
          simp only [z_s2]
          rw [if_neg hn, List.length_set, z_hp h0]
        · cases h
    · cases h
  case anewarray k =>
    split at h
    · split at h
      · cases h
      · rename_i hn
        obtain ⟨q, hq, h⟩ := Option.map_eq_some_iff.mp h
        cases h
        refine ⟨?_, z_hp0 h0⟩
        simp only [z_s2]
        rw [if_neg hn, hq]
        simp only [Option.map_some, List.length_set, z_hp h0]
    · cases h
  case arraylength =>
    split at h
    · split at h
      · rename_i hM
        cases h
        exact ⟨by simp only [z_s2, z_h0 (z_hl h0 hM) hM], h0⟩
      · cases h
    · cases h
  case iaload =>
    split at h
    · split at h
      · rename_i hM
        split at h
        · cases h
        · rename_i hi
          cases h
          refine ⟨?_, h0⟩
          simp only [z_s2, z_h0 (z_hl h0 hM) hM]
          rw [if_neg hi]
      · cases h
    · cases h
  case laload =>
    split at h
    · split at h
      · rename_i hM
        split at h
        · cases h
        · rename_i hi
          cases h
          refine ⟨?_, h0⟩
          simp only [z_s2, z_h0 (z_hl h0 hM) hM]
          rw [if_neg hi]
      · cases h
    · cases h
  case aaload =>
    split at h
    · split at h
      · rename_i hM
        split at h
        · cases h
        · rename_i hi
          cases h
          refine ⟨?_, h0⟩
          simp only [z_s2, z_h0 (z_hl h0 hM) hM]
          rw [if_neg hi]
      · cases h
    · cases h
  case iastore =>
    split at h
    · split at h
      · rename_i hM
        split at h
        · cases h
        · rename_i hi
          cases h
          refine ⟨?_, by rw [List.getElem?_set_ne (z_hl h0 hM)]; exact h0⟩
          simp only [z_s2, z_h0 (z_hl h0 hM) hM]
          rw [if_neg hi, z_hs (z_hl h0 hM)]
      · cases h
    · cases h
  case lastore =>
    split at h
    · split at h
      · rename_i hM
        split at h
        · cases h
        · rename_i hi
          cases h
          refine ⟨?_, by rw [List.getElem?_set_ne (z_hl h0 hM)]; exact h0⟩
          simp only [z_s2, z_h0 (z_hl h0 hM) hM]
          rw [if_neg hi, z_hs (z_hl h0 hM)]
      · cases h
    · cases h
  case aastore =>
    split at h
    · split at h
      · rename_i hM
        split at h
        · cases h
        · rename_i hi
          cases h
          refine ⟨?_, by rw [List.getElem?_set_ne (z_hl h0 hM)]; exact h0⟩
          simp only [z_s2, z_h0 (z_hl h0 hM) hM]
          rw [if_neg hi, z_hs (z_hl h0 hM)]
      · cases h
    · split at h
      · rename_i hM hV
        split at h
        · cases h
        · rename_i hi
          cases h
          have hv : ∀ {v : Nat}, ¬ v < 4 → v ≠ 0 := fun h => by omega
          have hv4 := fun q => hi (Or.inr (Or.inr (Or.inr (Or.inl q))))
          refine ⟨?_, by rw [List.getElem?_set_ne (z_hl h0 hM)]; exact h0⟩
          simp only [z_s2, z_h0 (z_hl h0 hM) hM, z_h0 (hv hv4) hV]
          rw [if_neg hi, z_hs (z_hl h0 hM)]
      · cases h
    · cases h
theorem z_s3_ind {c : Nat} {i : Instr} {pc : Nat} {S : zS} {M M' : zH} : (z_s3 c i pc S M).map (fun q => (q.1, q.2.1)) = (z_s3 c i pc S M').map (fun q => (q.1, q.2.1)) := by
  cases i <;> try rfl
  case invokespecial k =>
    dsimp only [z_s3]
    split
    · split <;> rfl
    · rfl
  case invokestatic k =>
    dsimp only [z_s3]
    split
    · split
      · split <;> rfl
      · rfl
    · split
      · split <;> rfl
      · rfl
    · rfl
theorem z_st_ind {j : Nat} {i : Instr} {pc pc1 : Nat} {L L1 : zL} {S S1 : zS} {M M1 : zH} {e : zE} (h0 : M[0]? = some z_hole) (h : z_st j i pc L S M = some (pc1, L1, S1, M1)) : z_st j i pc L S (M.set 0 e) = some (pc1, L1, S1, M1.set 0 e) ∧ M1[0]? = some z_hole := by
  unfold z_st at h ⊢
  split at h
  · rename_i h1
    cases h
    exact ⟨rfl, h0⟩
  · rename_i h1
    split at h
    · rename_i h2
      cases h
      obtain ⟨g1, g2⟩ := z_s2_ind (e := e) h0 h2
      rw [g1]
      exact ⟨rfl, g2⟩
    · rename_i h2
      split at h
      · rename_i h3
        cases h
        have h4 := z_s3_same h3
        subst h4
        have h5 := z_s3_ind (c := z_oc j) (i := i) (pc := pc) (S := S) (M := M1) (M' := M1.set 0 e)
        rw [h3] at h5
        have h6 : z_s2 (z_oc j) ((z_name j).name == "<init>") i pc S (M1.set 0 e) = none := by
          cases i <;> first | rfl | (simp [z_s3] at h3; done)
        rw [h6]
        cases h7 : z_s3 (z_oc j) i pc S (M1.set 0 e) with
        | none => rw [h7] at h5; cases h5
        | some q =>
          obtain ⟨q1, q2, q3⟩ := q
          rw [h7] at h5
          cases h5
          have h8 := z_s3_same h7
          subst h8
          exact ⟨rfl, h0⟩
      · cases h
theorem z_call_ind {c : Nat} {i : Instr} {S r : zS} {M : zH} {e : zE} {kd k : Nat} {vs : List Value} (h : z_call c i S M = some (kd, k, vs, r)) : z_call c i S (M.set 0 e) = some (kd, k, vs, r) ∧ ∀ j pc L, z_st j i pc L S M = none → z_oc j = c → z_st j i pc L S (M.set 0 e) = none := by
  have hn : ∀ j pc L, (z_s1 i pc L S = none) → (∀ M2, z_s2 (z_oc j) ((z_name j).name == "<init>") i pc S M2 = none) → z_st j i pc L S M = none → z_oc j = c → z_st j i pc L S (M.set 0 e) = none := by
    intro j pc L h1 h2 h3 h4
    unfold z_st at h3 ⊢
    rw [h1] at h3 ⊢
    simp only [h2] at h3 ⊢
    have h5 := z_s3_ind (c := z_oc j) (i := i) (pc := pc) (S := S) (M := M) (M' := M.set 0 e)
    cases h7 : z_s3 (z_oc j) i pc S (M.set 0 e) with
    | none => rfl
    | some q =>
      cases h8 : z_s3 (z_oc j) i pc S M with
      | none => rw [h7, h8] at h5; cases h5
      | some q2 => rw [h8] at h3; cases h3
  cases i
  case invokestatic k =>
    refine ⟨?_, fun j pc L => hn j pc L rfl (fun _ => rfl)⟩
    exact h
  case invokevirtual k =>
    refine ⟨?_, fun j pc L => hn j pc L rfl (fun _ => rfl)⟩
    dsimp only [z_call] at h ⊢
    split at h
    · rename_i hq
      split at h
      · rename_i hS
        split at h
        · rename_i hM
          split at h
          · rename_i hb
            have ha : ∀ {a : Nat}, 4 ≤ a → a ≠ 0 := fun h => by omega
            simp only [z_h0 (ha hb) hM]
            rw [if_pos hb]
            exact h
          · cases h
        · cases h
      · cases h
    · cases h
  case invokespecial k =>
    refine ⟨?_, fun j pc L => hn j pc L rfl (fun _ => rfl)⟩
    dsimp only [z_call] at h ⊢
    split at h
    · rename_i hq
      split at h
      · rename_i hS
        split at h
        · rename_i hM
          split at h
          · rename_i hb
            have ha : ∀ {a : Nat}, 4 ≤ a → a ≠ 0 := fun h => by omega
            simp only [z_h0 (ha hb) hM]
            rw [if_pos hb]
            exact h
          · cases h
        · cases h
      · cases h
    · cases h
  all_goals cases h
theorem z_indep (e : zE) : ∀ (n d j pc : Nat) (L : zL) (S : zS) (M M1 : zH) (v : Option Value), M[0]? = some z_hole → z_run n d j pc L S M = some (v, M1) → z_run n d j pc L S (M.set 0 e) = some (v, M1.set 0 e) ∧ M1[0]? = some z_hole
  | 0, d, j, pc, L, S, M, M1, v, h0, h => by cases h
  | n + 1, d, j, pc, L, S, M, M1, v, h0, h => by
    rw [z_run] at h ⊢
    split at h
    · cases h
    · split at h
      · rename_i hlen
        rw [if_pos hlen]
        split at h
        · rename_i he
          cases h
          exact ⟨rfl, h0⟩
        · split at h
          · rename_i hst
            obtain ⟨g1, g2⟩ := z_st_ind (e := e) h0 hst
            rw [g1]
            exact z_indep e n _ _ _ _ _ _ _ _ g2 h
          · rename_i hst
            split at h
            · rename_i hcall
              split at h
              · rename_i hg
                split at h
                · rename_i h1
                  obtain ⟨g1, g2⟩ := z_call_ind (e := e) hcall
                  obtain ⟨g3, g4⟩ := z_indep e n _ _ _ _ _ _ _ _ h0 h1
                  obtain ⟨g5, g6⟩ := z_indep e n _ _ _ _ _ _ _ _ g4 h
                  rw [g2 _ _ _ hst rfl]
                  simp only [g1]
                  rw [if_pos hg, g3]
                  exact ⟨g5, g6⟩
                · cases h
              · cases h
            · cases h
      · cases h
end
section
/-! the fresh objects: what the two constructors leave -/
abbrev zQ : Type := (Nat × Nat × Int32) ⊕ (Nat × List Value)
def z_q : zE → zQ → Bool
  | .inr (c, fs), .inr (c1, fs1) => decide (c = c1 ∧ fs = fs1)
  | .inl (t, n, .inl f), .inl (t1, n1, v) => decide (t = 0 ∧ t1 = 0 ∧ n = n1) && (List.range n).all fun i => decide (f i = v)
  | .inl (t, n, .inr (.inl f)), .inl (t1, n1, _) => decide (t = 1 ∧ t1 = 1 ∧ n = n1) && (List.range n).all fun i => decide (f i = 0)
  | .inl (t, n, .inr (.inr f)), .inl (t1, n1, _) => decide (t = t1 ∧ 2 ≤ t1 ∧ n = n1) && (List.range n).all fun i => decide (f i = none)
  | _, _ => false
def z_spec : List zQ := [
  .inr (0, [.ref 5, .ref 10, .ref 11, .int 0, .ref 12, .int 0, .ref 13, .ref 14, .ref 15, .ref 16, .ref 17, .ref 18, .null]),
  .inr (1, [.ref 6, .int 0, .int 0, .int 0, .int 0, .int 0, .int 0, .int 0, .ref 7, .ref 8, .int 0, .ref 9]),
  .inl (0, 160, 0),
  .inl (0, 10, 0),
  .inl (0, 8, 0),
  .inl (1, 70, 0),
  .inl (2, 8, 0),
  .inl (2, 8, 0),
  .inl (3, 20, 0),
  .inl (0, 25, 0),
  .inl (0, 6, (-1)),
  .inl (0, 6, 0),
  .inl (1, 360, 0),
  .inl (3, 6, 0),
  .inl (0, 216, 0),
  .inr (12, [.ref 20, .int 0, .ref 21, .ref 22, .ref 23, .ref 24, .ref 25, .ref 26, .ref 27, .ref 28, .ref 29, .ref 30, .ref 31, .int 0, .ref 32, .ref 33, .ref 34, .ref 35, .ref 36, .ref 37, .ref 38, .int 0, .int 0, .int 0, .int 0, .int 0, .int 0, .int 0, .int 0, .int 0, .int 0, .ref 39, .ref 40, .ref 41, .int 0, .int 0, .ref 42, .ref 43, .ref 44, .ref 45, .ref 46, .int 0, .ref 47, .int 0, .int 0, .int 0, .ref 48, .int 0, .int 0, .ref 49, .ref 50, .ref 51, .ref 52]),
  .inl (0, 160, 0),
  .inl (0, 1280, 0),
  .inl (0, 8, 0),
  .inl (0, 80, 0),
  .inl (0, 8, 0),
  .inl (0, 8, 0),
  .inl (0, 64, 0),
  .inl (0, 8, 0),
  .inl (0, 8, 0),
  .inl (0, 8192, 0),
  .inl (0, 8192, 0),
  .inl (0, 8, 0),
  .inl (0, 72, 0),
  .inl (0, 72, 0),
  .inl (0, 72, 0),
  .inl (0, 8, 0),
  .inl (0, 20, 0),
  .inl (0, 20, 0),
  .inl (0, 20, 0),
  .inl (0, 9, 0),
  .inl (0, 9, 0),
  .inl (0, 9, 0),
  .inl (0, 10, 0),
  .inl (0, 9, 0),
  .inl (0, 216, 0),
  .inl (0, 216, 0),
  .inl (0, 648, 0),
  .inl (0, 12, 0),
  .inl (0, 24, 0),
  .inl (0, 6, (-1)),
  .inl (0, 6, 0),
  .inl (1, 360, 0),
  .inl (1, 60, 0)]
def z_qo (o : Option zE) (q : Option zQ) : Bool := match o, q with
  | some e, some s => z_q e s
  | _, _ => false
def z_fr (M : zH) (lo hi : Nat) : Prop := ∀ k, lo ≤ k → k < hi → z_qo (M[k]?) (z_spec[k - 4]?) = true
theorem z_qO {o : Option zE} {c : Nat} {fs : List Value} (h : z_qo o (some (.inr (c, fs))) = true) : o = some (.inr (c, fs)) := by
  match o, h with
  | some (.inr (c1, fs1)), h => obtain ⟨rfl, rfl⟩ := of_decide_eq_true h; rfl
theorem z_qI {o : Option zE} {n : Nat} {v : Int32} (h : z_qo o (some (.inl (0, n, v))) = true) : ∃ f, o = some (.inl (0, n, .inl f)) ∧ ∀ i, i < n → f i = v := by
  match o, h with
  | some (.inl (t, n1, .inl f)), h =>
    obtain ⟨h1, h2⟩ := Bool.and_eq_true_iff.mp h
    obtain ⟨rfl, h3, rfl⟩ := of_decide_eq_true h1
    exact ⟨f, rfl, fun i hi => of_decide_eq_true (List.all_eq_true.mp h2 i (List.mem_range.mpr hi))⟩
  | some (.inl (t, n1, .inr (.inl f))), h =>
    obtain ⟨h1, h2⟩ := Bool.and_eq_true_iff.mp h
    exact absurd (of_decide_eq_true h1).2.1 (by omega)
  | some (.inl (t, n1, .inr (.inr f))), h =>
    obtain ⟨h1, h2⟩ := Bool.and_eq_true_iff.mp h
    exact absurd (of_decide_eq_true h1).2.1 (by omega)
theorem z_qL {o : Option zE} {n : Nat} {v : Int32} (h : z_qo o (some (.inl (1, n, v))) = true) : ∃ f, o = some (.inl (1, n, .inr (.inl f))) ∧ ∀ i, i < n → f i = 0 := by
  match o, h with
  | some (.inl (t, n1, .inr (.inl f))), h =>
    obtain ⟨h1, h2⟩ := Bool.and_eq_true_iff.mp h
    obtain ⟨rfl, h3, rfl⟩ := of_decide_eq_true h1
    exact ⟨f, rfl, fun i hi => of_decide_eq_true (List.all_eq_true.mp h2 i (List.mem_range.mpr hi))⟩
  | some (.inl (t, n1, .inl f)), h =>
    obtain ⟨h1, h2⟩ := Bool.and_eq_true_iff.mp h
    exact absurd (of_decide_eq_true h1).2.1 (by omega)
  | some (.inl (t, n1, .inr (.inr f))), h =>
    obtain ⟨h1, h2⟩ := Bool.and_eq_true_iff.mp h
    exact absurd (of_decide_eq_true h1).2.1 (by omega)
theorem z_qR {o : Option zE} {t n : Nat} {v : Int32} (ht : 2 ≤ t) (h : z_qo o (some (.inl (t, n, v))) = true) : ∃ f, o = some (.inl (t, n, .inr (.inr f))) ∧ ∀ i, i < n → f i = none := by
  match o, h with
  | some (.inl (t1, n1, .inr (.inr f))), h =>
    obtain ⟨h1, h2⟩ := Bool.and_eq_true_iff.mp h
    obtain ⟨rfl, h3, rfl⟩ := of_decide_eq_true h1
    exact ⟨f, rfl, fun i hi => of_decide_eq_true (List.all_eq_true.mp h2 i (List.mem_range.mpr hi))⟩
  | some (.inl (t1, n1, .inl f)), h =>
    obtain ⟨h1, h2⟩ := Bool.and_eq_true_iff.mp h
    exact absurd (of_decide_eq_true h1).2.1 (by omega)
  | some (.inl (t1, n1, .inr (.inl f))), h =>
    obtain ⟨h1, h2⟩ := Bool.and_eq_true_iff.mp h
    exact absurd (of_decide_eq_true h1).2.1 (by omega)
/-- the heap before: a hole in the script's place -/
def z_Mh : zH := (z_M0 0 fun _ => 0).set 0 z_hole
def z_iA : Option (Option Value × zH) := z_run 20000 2046 1 0 (z_ent [.ref 4] (z_ml 1)) [] (z_Mh ++ [.inr (0, z_blank 0)])
def z_iB (A : zH) : Option (Option Value × zH) := z_run 20000 2046 187 0 (z_ent [.ref 19] (z_ml 187)) [] (A ++ [.inr (12, z_blank 12)])
def z_cB (B : zH) : Bool := decide (B.length = 53 ∧ z_sz B ≤ 50000) && (List.range 49).all fun k => z_qo (B[k + 4]?) (z_spec[k]?)
theorem z_iAB : (match z_iA with
  | some (none, A) => decide (A.length = 19) && (match z_iB A with | some (none, B) => z_cB B | _ => false)
  | _ => false) = true := by decide +kernel
theorem z_fresh : ∃ A B, z_iA = some (none, A) ∧ A.length = 19 ∧ z_iB A = some (none, B) ∧ B.length = 53 ∧ z_sz B ≤ 50000 ∧ z_fr B 4 53 := by
  have h := z_iAB
  split at h
  · rename_i A hA
    obtain ⟨h1, h2⟩ := Bool.and_eq_true_iff.mp h
    split at h2
    · rename_i B hB
      obtain ⟨h3, h4⟩ := Bool.and_eq_true_iff.mp h2
      obtain ⟨h5, h6⟩ := of_decide_eq_true h3
      refine ⟨A, B, hA, of_decide_eq_true h1, hB, h5, h6, fun k h7 h8 => ?_⟩
      have h9 := List.all_eq_true.mp h4 (k - 4) (List.mem_range.mpr (by omega))
      rw [Nat.sub_add_cancel h7] at h9
      exact h9
    · cases h2
  · cases h
end
section
/-! lemmas of the walks -/
theorem z_b_ltx1 {x c : Int32} {k : Int} {a b : Nat} (hc : c.toInt = k) (e : x.toInt < k) : z_br .lt x c a b = a := by subst hc; exact if_pos (Int32.lt_iff_toInt_lt.mpr (e))
theorem z_b_ltx0 {x c : Int32} {k : Int} {a b : Nat} (hc : c.toInt = k) (e : ¬ (x.toInt < k)) : z_br .lt x c a b = b := by subst hc; exact if_neg fun q => e (Int32.lt_iff_toInt_lt.mp q)
theorem z_b_lty1 {x c : Int32} {k : Int} {a b : Nat} (hc : c.toInt = k) (e : k < x.toInt) : z_br .lt c x a b = a := by subst hc; exact if_pos (Int32.lt_iff_toInt_lt.mpr (e))
theorem z_b_lty0 {x c : Int32} {k : Int} {a b : Nat} (hc : c.toInt = k) (e : ¬ (k < x.toInt)) : z_br .lt c x a b = b := by subst hc; exact if_neg fun q => e (Int32.lt_iff_toInt_lt.mp q)
theorem z_b_gex1 {x c : Int32} {k : Int} {a b : Nat} (hc : c.toInt = k) (e : x.toInt < k) : z_br .ge x c a b = b := by subst hc; exact if_pos (Int32.lt_iff_toInt_lt.mpr (e))
theorem z_b_gex0 {x c : Int32} {k : Int} {a b : Nat} (hc : c.toInt = k) (e : ¬ (x.toInt < k)) : z_br .ge x c a b = a := by subst hc; exact if_neg fun q => e (Int32.lt_iff_toInt_lt.mp q)
theorem z_b_gey1 {x c : Int32} {k : Int} {a b : Nat} (hc : c.toInt = k) (e : k < x.toInt) : z_br .ge c x a b = b := by subst hc; exact if_pos (Int32.lt_iff_toInt_lt.mpr (e))
theorem z_b_gey0 {x c : Int32} {k : Int} {a b : Nat} (hc : c.toInt = k) (e : ¬ (k < x.toInt)) : z_br .ge c x a b = a := by subst hc; exact if_neg fun q => e (Int32.lt_iff_toInt_lt.mp q)
theorem z_b_gtx1 {x c : Int32} {k : Int} {a b : Nat} (hc : c.toInt = k) (e : k < x.toInt) : z_br .gt x c a b = a := by subst hc; exact if_pos (Int32.lt_iff_toInt_lt.mpr (e))
theorem z_b_gtx0 {x c : Int32} {k : Int} {a b : Nat} (hc : c.toInt = k) (e : ¬ (k < x.toInt)) : z_br .gt x c a b = b := by subst hc; exact if_neg fun q => e (Int32.lt_iff_toInt_lt.mp q)
theorem z_b_gty1 {x c : Int32} {k : Int} {a b : Nat} (hc : c.toInt = k) (e : x.toInt < k) : z_br .gt c x a b = a := by subst hc; exact if_pos (Int32.lt_iff_toInt_lt.mpr (e))
theorem z_b_gty0 {x c : Int32} {k : Int} {a b : Nat} (hc : c.toInt = k) (e : ¬ (x.toInt < k)) : z_br .gt c x a b = b := by subst hc; exact if_neg fun q => e (Int32.lt_iff_toInt_lt.mp q)
theorem z_b_lex1 {x c : Int32} {k : Int} {a b : Nat} (hc : c.toInt = k) (e : k < x.toInt) : z_br .le x c a b = b := by subst hc; exact if_pos (Int32.lt_iff_toInt_lt.mpr (e))
theorem z_b_lex0 {x c : Int32} {k : Int} {a b : Nat} (hc : c.toInt = k) (e : ¬ (k < x.toInt)) : z_br .le x c a b = a := by subst hc; exact if_neg fun q => e (Int32.lt_iff_toInt_lt.mp q)
theorem z_b_ley1 {x c : Int32} {k : Int} {a b : Nat} (hc : c.toInt = k) (e : x.toInt < k) : z_br .le c x a b = b := by subst hc; exact if_pos (Int32.lt_iff_toInt_lt.mpr (e))
theorem z_b_ley0 {x c : Int32} {k : Int} {a b : Nat} (hc : c.toInt = k) (e : ¬ (x.toInt < k)) : z_br .le c x a b = a := by subst hc; exact if_neg fun q => e (Int32.lt_iff_toInt_lt.mp q)
theorem z_b_eqx1 {x c : Int32} {k : Int} {a b : Nat} (hc : c.toInt = k) (e : x.toInt = k) : z_br .eq x c a b = a := by subst hc; exact if_pos (Int32.toInt_inj.mp (e))
theorem z_b_eqx0 {x c : Int32} {k : Int} {a b : Nat} (hc : c.toInt = k) (e : ¬ (x.toInt = k)) : z_br .eq x c a b = b := by subst hc; exact if_neg fun q => e (congrArg Int32.toInt q)
theorem z_b_eqy1 {x c : Int32} {k : Int} {a b : Nat} (hc : c.toInt = k) (e : x.toInt = k) : z_br .eq c x a b = a := by subst hc; exact if_pos ((Int32.toInt_inj.mp (e)).symm)
theorem z_b_eqy0 {x c : Int32} {k : Int} {a b : Nat} (hc : c.toInt = k) (e : ¬ (x.toInt = k)) : z_br .eq c x a b = b := by subst hc; exact if_neg fun q => e (congrArg Int32.toInt q.symm)
theorem z_b_nex1 {x c : Int32} {k : Int} {a b : Nat} (hc : c.toInt = k) (e : x.toInt = k) : z_br .ne x c a b = b := by subst hc; exact if_pos (Int32.toInt_inj.mp (e))
theorem z_b_nex0 {x c : Int32} {k : Int} {a b : Nat} (hc : c.toInt = k) (e : ¬ (x.toInt = k)) : z_br .ne x c a b = a := by subst hc; exact if_neg fun q => e (congrArg Int32.toInt q)
theorem z_b_ney1 {x c : Int32} {k : Int} {a b : Nat} (hc : c.toInt = k) (e : x.toInt = k) : z_br .ne c x a b = b := by subst hc; exact if_pos ((Int32.toInt_inj.mp (e)).symm)
theorem z_b_ney0 {x c : Int32} {k : Int} {a b : Nat} (hc : c.toInt = k) (e : ¬ (x.toInt = k)) : z_br .ne c x a b = a := by subst hc; exact if_neg fun q => e (congrArg Int32.toInt q.symm)
theorem z_b_ltl1 {x : Int32} {c : Int64} {k : Int} {a b : Nat} (hc : c.toInt = k) (e : x.toInt < k) : z_br .lt (lg_cmp x.toInt64 c) 0 a b = a := by subst hc; exact if_pos ((lg_cmp_lt _ _).mpr (Int64.lt_iff_toInt_lt.mpr (by rw [Int32.toInt_toInt64]; exact e)))
theorem z_b_ltl0 {x : Int32} {c : Int64} {k : Int} {a b : Nat} (hc : c.toInt = k) (e : ¬ (x.toInt < k)) : z_br .lt (lg_cmp x.toInt64 c) 0 a b = b := by subst hc; exact if_neg fun q => e (by have q2 := Int64.lt_iff_toInt_lt.mp ((lg_cmp_lt _ _).mp q); rw [Int32.toInt_toInt64] at q2; exact q2)
theorem z_b_gel1 {x : Int32} {c : Int64} {k : Int} {a b : Nat} (hc : c.toInt = k) (e : x.toInt < k) : z_br .ge (lg_cmp x.toInt64 c) 0 a b = b := by subst hc; exact if_pos ((lg_cmp_lt _ _).mpr (Int64.lt_iff_toInt_lt.mpr (by rw [Int32.toInt_toInt64]; exact e)))
theorem z_b_gel0 {x : Int32} {c : Int64} {k : Int} {a b : Nat} (hc : c.toInt = k) (e : ¬ (x.toInt < k)) : z_br .ge (lg_cmp x.toInt64 c) 0 a b = a := by subst hc; exact if_neg fun q => e (by have q2 := Int64.lt_iff_toInt_lt.mp ((lg_cmp_lt _ _).mp q); rw [Int32.toInt_toInt64] at q2; exact q2)
theorem z_b_gtl1 {x : Int32} {c : Int64} {k : Int} {a b : Nat} (hc : c.toInt = k) (e : k < x.toInt) : z_br .gt (lg_cmp x.toInt64 c) 0 a b = a := by subst hc; exact if_pos ((lg_cmp_gt _ _).mpr (Int64.lt_iff_toInt_lt.mpr (by rw [Int32.toInt_toInt64]; exact e)))
theorem z_b_gtl0 {x : Int32} {c : Int64} {k : Int} {a b : Nat} (hc : c.toInt = k) (e : ¬ (k < x.toInt)) : z_br .gt (lg_cmp x.toInt64 c) 0 a b = b := by subst hc; exact if_neg fun q => e (by have q2 := Int64.lt_iff_toInt_lt.mp ((lg_cmp_gt _ _).mp q); rw [Int32.toInt_toInt64] at q2; exact q2)
theorem z_b_lel1 {x : Int32} {c : Int64} {k : Int} {a b : Nat} (hc : c.toInt = k) (e : k < x.toInt) : z_br .le (lg_cmp x.toInt64 c) 0 a b = b := by subst hc; exact if_pos ((lg_cmp_gt _ _).mpr (Int64.lt_iff_toInt_lt.mpr (by rw [Int32.toInt_toInt64]; exact e)))
theorem z_b_lel0 {x : Int32} {c : Int64} {k : Int} {a b : Nat} (hc : c.toInt = k) (e : ¬ (k < x.toInt)) : z_br .le (lg_cmp x.toInt64 c) 0 a b = a := by subst hc; exact if_neg fun q => e (by have q2 := Int64.lt_iff_toInt_lt.mp ((lg_cmp_gt _ _).mp q); rw [Int32.toInt_toInt64] at q2; exact q2)
theorem z_inr {x : Int32} {n : Nat} (h0 : 0 ≤ x.toInt) (h1 : x.toInt < n) : ¬ (x < 0 ∨ n ≤ x.toNatClampNeg) := by
  rintro (h | h)
  · have h2 := Int32.lt_iff_toInt_lt.mp h
    rw [show (0 : Int32).toInt = 0 from rfl] at h2
    omega
  · unfold Int32.toNatClampNeg at h
    omega
theorem z_cll {x : Int32} {n : Nat} (h1 : x.toInt < n) (h2 : 0 < n) : x.toNatClampNeg < n := by
  unfold Int32.toNatClampNeg
  omega
theorem z_sub {x k : Int32} {c : Int} (e : x.toInt = c) (hk : k.toInt = c) : x = k := Int32.toInt_inj.mp (e.trans hk.symm)
theorem z_etd {d j pc len t : Nat} {dd lo hi : Int} {offs : Array Int} {L : zL} {x : Int32} {r : zS} {M : zH} {K : Option Value → zH → Prop} (hd : decode (z_b j) pc = .ok (.tableswitch dd lo hi offs, len)) (ht : z_tg pc dd = some t) (hx : x.toInt < lo ∨ hi < x.toInt) (k : z_ev d j t L r M K) : z_ev d j pc L (.int x :: r) M K :=
  z_e1 hd rfl (by cases r <;> rfl) (by simp only [z_s1]; rw [if_pos hx, ht]) k
theorem z_nl {M : zH} {a N : Nat} {e : zE} (h : M.length = N) : (M.set a e).length = N := by rw [List.length_set]; exact h
theorem z_np1 {M : zH} {N : Nat} {e : zE} (h : M.length = N) : (M ++ [e]).length = N + 1 := by rw [List.length_append, h]; rfl
theorem z_szs {M : zH} {a q : Nat} {e e0 : zE} (hM : M[a]? = some e0) (hz : z_cz e = z_cz e0) (h : z_sz M ≤ q) : z_sz (M.set a e) ≤ q := by rw [z_sz_set hM hz]; exact h
theorem z_szp {M : zH} {q q1 : Nat} {e : zE} (h : z_sz M ≤ q) (he : q + z_cz e ≤ q1) : z_sz (M ++ [e]) ≤ q1 := by rw [z_sz_push]; omega
/-- the law's end -/
def z_K1 (v : Option Value) (M : zH) : Prop := v = some (.int 1) ∧ M.length ≤ 600000 ∧ z_sz M ≤ 7302250
theorem z_K1i {M : zH} {N q : Nat} (hN : M.length = N) (hq : z_sz M ≤ q) (h1 : N ≤ 600000) (h2 : q ≤ 7302250) : z_K1 (some (.int 1)) M := ⟨rfl, hN ▸ h1, Nat.le_trans hq h2⟩
end
section
/-! rows of the walks: instructions, fields, call sites -/
theorem zd0_246 : decode (z_b 0) 246 = .ok (.aload_n 1, 1) := by decide +kernel
theorem zd0_247 : decode (z_b 0) 247 = .ok (.aload_n 0, 1) := by decide +kernel
theorem zd0_248 : decode (z_b 0) 248 = .ok (.iload_n 3, 1) := by decide +kernel
theorem zd0_249 : decode (z_b 0) 249 = .ok (.iconst 1, 1) := by decide +kernel
theorem zd0_250 : decode (z_b 0) 250 = .ok (.iadd, 1) := by decide +kernel
theorem zd0_251 : decode (z_b 0) 251 = .ok (.iaload, 1) := by decide +kernel
theorem zd0_252 : decode (z_b 0) 252 = .ok (.aload_n 0, 1) := by decide +kernel
theorem zd0_253 : decode (z_b 0) 253 = .ok (.iload_n 3, 1) := by decide +kernel
theorem zd0_254 : decode (z_b 0) 254 = .ok (.iconst 2, 1) := by decide +kernel
theorem zd0_255 : decode (z_b 0) 255 = .ok (.iadd, 1) := by decide +kernel
theorem zd0_256 : decode (z_b 0) 256 = .ok (.iaload, 1) := by decide +kernel
theorem zcV0_23 : (z_find z_cV (z_oc 0) 23).map (·.1) = some (1, 2, [(0, 34)]) := by decide +kernel
theorem zd0_257 : decode (z_b 0) 257 = .ok (.invokevirtual 23, 3) := by decide +kernel
theorem zm34 : z_ml 34 = 4 := by decide +kernel
theorem zd34_0 : decode (z_b 34) 0 = .ok (.aload_n 0, 1) := by decide +kernel
theorem zd34_1 : decode (z_b 34) 1 = .ok (.iload_n 1, 1) := by decide +kernel
theorem zcV34_85 : (z_find z_cV (z_oc 34) 85).map (·.1) = some (1, 1, [(0, 35)]) := by decide +kernel
theorem zd34_2 : decode (z_b 34) 2 = .ok (.invokevirtual 85, 3) := by decide +kernel
theorem zm35 : z_ml 35 = 2 := by decide +kernel
theorem zd35_0 : decode (z_b 35) 0 = .ok (.iload_n 1, 1) := by decide +kernel
theorem zd35_1 : decode (z_b 35) 1 = .ok (.ifCond .lt 11, 3) := by decide +kernel
theorem zd35_12 : decode (z_b 35) 12 = .ok (.aconst_null, 1) := by decide +kernel
theorem zd35_13 : decode (z_b 35) 13 = .ok (.goto 9, 3) := by decide +kernel
theorem zr35 : z_rt 35 = some (.object "DoorBench$Bench") := by decide +kernel
theorem zd35_22 : decode (z_b 35) 22 = .ok (.areturn, 1) := by decide +kernel
theorem zd34_5 : decode (z_b 34) 5 = .ok (.astore_n 3, 1) := by decide +kernel
theorem zd34_6 : decode (z_b 34) 6 = .ok (.aload_n 3, 1) := by decide +kernel
theorem zd34_7 : decode (z_b 34) 7 = .ok (.ifnonnull 5, 3) := by decide +kernel
theorem zd34_10 : decode (z_b 34) 10 = .ok (.iconst (-1), 1) := by decide +kernel
theorem zr34 : z_rt 34 = some (.int) := by decide +kernel
theorem zd34_11 : decode (z_b 34) 11 = .ok (.ireturn, 1) := by decide +kernel
theorem zd0_260 : decode (z_b 0) 260 = .ok (.aload_n 2, 1) := by decide +kernel
theorem zd0_261 : decode (z_b 0) 261 = .ok (.aload_n 0, 1) := by decide +kernel
theorem zd0_262 : decode (z_b 0) 262 = .ok (.iload_n 3, 1) := by decide +kernel
theorem zd0_263 : decode (z_b 0) 263 = .ok (.iconst 1, 1) := by decide +kernel
theorem zd0_264 : decode (z_b 0) 264 = .ok (.iadd, 1) := by decide +kernel
theorem zd0_265 : decode (z_b 0) 265 = .ok (.iaload, 1) := by decide +kernel
theorem zd0_266 : decode (z_b 0) 266 = .ok (.aload_n 0, 1) := by decide +kernel
theorem zd0_267 : decode (z_b 0) 267 = .ok (.iload_n 3, 1) := by decide +kernel
theorem zd0_268 : decode (z_b 0) 268 = .ok (.iconst 2, 1) := by decide +kernel
theorem zd0_269 : decode (z_b 0) 269 = .ok (.iadd, 1) := by decide +kernel
theorem zd0_270 : decode (z_b 0) 270 = .ok (.iaload, 1) := by decide +kernel
theorem zcV0_26 : (z_find z_cV (z_oc 0) 26).map (·.1) = some (1, 2, [(12, 208)]) := by decide +kernel
theorem zd0_271 : decode (z_b 0) 271 = .ok (.invokevirtual 26, 3) := by decide +kernel
theorem zm208 : z_ml 208 = 3 := by decide +kernel
theorem zd208_0 : decode (z_b 208) 0 = .ok (.aload_n 0, 1) := by decide +kernel
theorem zd208_1 : decode (z_b 208) 1 = .ok (.iload_n 1, 1) := by decide +kernel
theorem zcV208_209 : (z_find z_cV (z_oc 208) 209).map (·.1) = some (1, 1, [(12, 209)]) := by decide +kernel
theorem zd208_2 : decode (z_b 208) 2 = .ok (.invokevirtual 209, 3) := by decide +kernel
theorem zm209 : z_ml 209 = 2 := by decide +kernel
theorem zd209_0 : decode (z_b 209) 0 = .ok (.iload_n 1, 1) := by decide +kernel
theorem zd209_1 : decode (z_b 209) 1 = .ok (.ifCond .lt 15, 3) := by decide +kernel
theorem zd209_16 : decode (z_b 209) 16 = .ok (.iconst 0, 1) := by decide +kernel
theorem zr209 : z_rt 209 = some (.boolean) := by decide +kernel
theorem zd209_17 : decode (z_b 209) 17 = .ok (.ireturn, 1) := by decide +kernel
theorem zd208_5 : decode (z_b 208) 5 = .ok (.ifCond .ne 5, 3) := by decide +kernel
theorem zd208_8 : decode (z_b 208) 8 = .ok (.iconst (-1), 1) := by decide +kernel
theorem zr208 : z_rt 208 = some (.int) := by decide +kernel
theorem zd208_9 : decode (z_b 208) 9 = .ok (.ireturn, 1) := by decide +kernel
theorem zd0_274 : decode (z_b 0) 274 = .ok (.if_icmp .eq 1501, 3) := by decide +kernel
theorem zd0_1775 : decode (z_b 0) 1775 = .ok (.iinc 3 6, 3) := by decide +kernel
theorem zd0_1778 : decode (z_b 0) 1778 = .ok (.goto (-1760), 3) := by decide +kernel
theorem zd0_18 : decode (z_b 0) 18 = .ok (.iload_n 3, 1) := by decide +kernel
theorem zd0_19 : decode (z_b 0) 19 = .ok (.aload_n 0, 1) := by decide +kernel
theorem zd0_20 : decode (z_b 0) 20 = .ok (.arraylength, 1) := by decide +kernel
theorem zd0_21 : decode (z_b 0) 21 = .ok (.bipush 6, 2) := by decide +kernel
theorem zd0_23 : decode (z_b 0) 23 = .ok (.isub, 1) := by decide +kernel
theorem zd0_24 : decode (z_b 0) 24 = .ok (.if_icmp .gt 1757, 3) := by decide +kernel
theorem zd0_1781 : decode (z_b 0) 1781 = .ok (.iconst 1, 1) := by decide +kernel
theorem zr0 : z_rt 0 = (some .boolean) := by decide +kernel
theorem zd0_1782 : decode (z_b 0) 1782 = .ok (.ireturn, 1) := by decide +kernel
theorem zd35_4 : decode (z_b 35) 4 = .ok (.iload_n 1, 1) := by decide +kernel
theorem zd35_5 : decode (z_b 35) 5 = .ok (.aload_n 0, 1) := by decide +kernel
theorem zf35_59 : z_fF (z_oc 35) 59 = some ((3, [0]), "DoorBench") := by decide +kernel
theorem zd35_6 : decode (z_b 35) 6 = .ok (.getfield 59, 3) := by decide +kernel
theorem zd35_9 : decode (z_b 35) 9 = .ok (.if_icmp .lt 7, 3) := by decide +kernel
theorem zd209_4 : decode (z_b 209) 4 = .ok (.iload_n 1, 1) := by decide +kernel
theorem zd209_5 : decode (z_b 209) 5 = .ok (.aload_n 0, 1) := by decide +kernel
theorem zf209_110 : z_fF (z_oc 209) 110 = some ((13, [12]), "DoorBenchModel") := by decide +kernel
theorem zd209_6 : decode (z_b 209) 6 = .ok (.getfield 110, 3) := by decide +kernel
theorem zd209_9 : decode (z_b 209) 9 = .ok (.if_icmp .ge 7, 3) := by decide +kernel
end
section
/-! the calls, one by one, on fresh objects -/
theorem z_C2 {M : zH} {xs : Nat → Int32} {x1 x2 x3 x4 x5 : Int32} (h0 : M[0]? = some (.inl (0, 6, .inl xs))) (hN : M.length = 53) (hS : z_sz M ≤ 50000) (hB : z_fr M 4 53) (g1 : xs 1 = x1) (g2 : xs 2 = x2) (g3 : xs 3 = x3) (g4 : xs 4 = x4) (g5 : xs 5 = x5) : z_ev 2047 0 246 [some (.ref 0), some (.ref 4), some (.ref 19), some (.int 0)] [] M z_K1 := by
  have b4 := z_qO (hB 4 (by decide) (by decide))
  have b19 := z_qO (hB 19 (by decide) (by decide))
  refine z_e1 (pc1 := 247) (L1 := [some (.ref 0), some (.ref 4), some (.ref 19), some (.int 0)]) (S1 := [.ref 4]) zd0_246 rfl rfl rfl ?_
  refine z_e1 (pc1 := 248) (L1 := [some (.ref 0), some (.ref 4), some (.ref 19), some (.int 0)]) (S1 := [.ref 0, .ref 4]) zd0_247 rfl rfl rfl ?_
  refine z_e1 (pc1 := 249) (L1 := [some (.ref 0), some (.ref 4), some (.ref 19), some (.int 0)]) (S1 := [.int 0, .ref 0, .ref 4]) zd0_248 rfl rfl rfl ?_
  refine z_e1 (pc1 := 250) (L1 := [some (.ref 0), some (.ref 4), some (.ref 19), some (.int 0)]) (S1 := [.int 1, .int 0, .ref 0, .ref 4]) zd0_249 rfl rfl rfl ?_
  refine z_e1 (pc1 := 251) (L1 := [some (.ref 0), some (.ref 4), some (.ref 19), some (.int 0)]) (S1 := [.int 1, .ref 0, .ref 4]) zd0_250 rfl rfl rfl ?_
  refine z_eial (y := x1) zd0_251 h0 (by decide) g1 ?_
  refine z_e1 (pc1 := 253) (L1 := [some (.ref 0), some (.ref 4), some (.ref 19), some (.int 0)]) (S1 := [.ref 0, .int x1, .ref 4]) zd0_252 rfl rfl rfl ?_
  refine z_e1 (pc1 := 254) (L1 := [some (.ref 0), some (.ref 4), some (.ref 19), some (.int 0)]) (S1 := [.int 0, .ref 0, .int x1, .ref 4]) zd0_253 rfl rfl rfl ?_
  refine z_e1 (pc1 := 255) (L1 := [some (.ref 0), some (.ref 4), some (.ref 19), some (.int 0)]) (S1 := [.int 2, .int 0, .ref 0, .int x1, .ref 4]) zd0_254 rfl rfl rfl ?_
  refine z_e1 (pc1 := 256) (L1 := [some (.ref 0), some (.ref 4), some (.ref 19), some (.int 0)]) (S1 := [.int 2, .ref 0, .int x1, .ref 4]) zd0_255 rfl rfl rfl ?_
  refine z_eial (y := x2) zd0_256 h0 (by decide) g2 ?_
  refine z_ecV (vs := [.ref 4, .int x1, .int x2]) (r := []) (L2 := [some (.ref 4), some (.int x1), some (.int x2), none]) zd0_257 zcV0_23 (Or.inl rfl) rfl b4 (by decide) rfl rfl rfl (Nat.le_of_ble_eq_true rfl) zm34 (Nat.le_of_ble_eq_true rfl) rfl ?_
  refine z_e1 (pc1 := 1) (L1 := [some (.ref 4), some (.int x1), some (.int x2), none]) (S1 := [.ref 4]) zd34_0 rfl rfl rfl ?_
  refine z_e1 (pc1 := 2) (L1 := [some (.ref 4), some (.int x1), some (.int x2), none]) (S1 := [.int x1, .ref 4]) zd34_1 rfl rfl rfl ?_
  refine z_ecV (vs := [.ref 4, .int x1]) (r := []) (L2 := [some (.ref 4), some (.int x1)]) zd34_2 zcV34_85 (Or.inl rfl) rfl b4 (by decide) rfl rfl rfl (Nat.le_of_ble_eq_true rfl) zm35 (Nat.le_of_ble_eq_true rfl) rfl ?_
  refine z_e1 (pc1 := 1) (L1 := [some (.ref 4), some (.int x1)]) (S1 := [.int x1]) zd35_0 rfl rfl rfl ?_
  by_cases e1 : x1.toInt < 0
  · refine z_ez (t := 12) (t2 := 12) zd35_1 rfl (z_b_ltx1 (k := 0) (by decide) e1) ?_
    refine z_e1 (pc1 := 13) (L1 := [some (.ref 4), some (.int x1)]) (S1 := [.null]) zd35_12 rfl rfl rfl ?_
    refine z_e1 (pc1 := 22) (L1 := [some (.ref 4), some (.int x1)]) (S1 := [.null]) zd35_13 rfl rfl rfl ?_
    refine z_ern zd35_22 zr35 ?_
    show z_ev _ 34 5 [some (.ref 4), some (.int x1), some (.int x2), none] [.null] _ _
    refine z_e1 (pc1 := 6) (L1 := [some (.ref 4), some (.int x1), some (.int x2), some (.null)]) (S1 := []) zd34_5 rfl rfl rfl ?_
    refine z_e1 (pc1 := 7) (L1 := [some (.ref 4), some (.int x1), some (.int x2), some (.null)]) (S1 := [.null]) zd34_6 rfl rfl rfl ?_
    refine z_e1 (pc1 := 10) (L1 := [some (.ref 4), some (.int x1), some (.int x2), some (.null)]) (S1 := []) zd34_7 rfl rfl rfl ?_
    refine z_e1 (pc1 := 11) (L1 := [some (.ref 4), some (.int x1), some (.int x2), some (.null)]) (S1 := [.int (-1)]) zd34_10 rfl rfl rfl ?_
    refine z_eri zd34_11 zr34 ?_
    show z_ev _ 0 260 [some (.ref 0), some (.ref 4), some (.ref 19), some (.int 0)] [.int (-1)] _ _
    refine z_e1 (pc1 := 261) (L1 := [some (.ref 0), some (.ref 4), some (.ref 19), some (.int 0)]) (S1 := [.ref 19, .int (-1)]) zd0_260 rfl rfl rfl ?_
    refine z_e1 (pc1 := 262) (L1 := [some (.ref 0), some (.ref 4), some (.ref 19), some (.int 0)]) (S1 := [.ref 0, .ref 19, .int (-1)]) zd0_261 rfl rfl rfl ?_
    refine z_e1 (pc1 := 263) (L1 := [some (.ref 0), some (.ref 4), some (.ref 19), some (.int 0)]) (S1 := [.int 0, .ref 0, .ref 19, .int (-1)]) zd0_262 rfl rfl rfl ?_
    refine z_e1 (pc1 := 264) (L1 := [some (.ref 0), some (.ref 4), some (.ref 19), some (.int 0)]) (S1 := [.int 1, .int 0, .ref 0, .ref 19, .int (-1)]) zd0_263 rfl rfl rfl ?_
    refine z_e1 (pc1 := 265) (L1 := [some (.ref 0), some (.ref 4), some (.ref 19), some (.int 0)]) (S1 := [.int 1, .ref 0, .ref 19, .int (-1)]) zd0_264 rfl rfl rfl ?_
    refine z_eial (y := x1) zd0_265 h0 (by decide) g1 ?_
    refine z_e1 (pc1 := 267) (L1 := [some (.ref 0), some (.ref 4), some (.ref 19), some (.int 0)]) (S1 := [.ref 0, .int x1, .ref 19, .int (-1)]) zd0_266 rfl rfl rfl ?_
    refine z_e1 (pc1 := 268) (L1 := [some (.ref 0), some (.ref 4), some (.ref 19), some (.int 0)]) (S1 := [.int 0, .ref 0, .int x1, .ref 19, .int (-1)]) zd0_267 rfl rfl rfl ?_
    refine z_e1 (pc1 := 269) (L1 := [some (.ref 0), some (.ref 4), some (.ref 19), some (.int 0)]) (S1 := [.int 2, .int 0, .ref 0, .int x1, .ref 19, .int (-1)]) zd0_268 rfl rfl rfl ?_
    refine z_e1 (pc1 := 270) (L1 := [some (.ref 0), some (.ref 4), some (.ref 19), some (.int 0)]) (S1 := [.int 2, .ref 0, .int x1, .ref 19, .int (-1)]) zd0_269 rfl rfl rfl ?_
    refine z_eial (y := x2) zd0_270 h0 (by decide) g2 ?_
    refine z_ecV (vs := [.ref 19, .int x1, .int x2]) (r := [.int (-1)]) (L2 := [some (.ref 19), some (.int x1), some (.int x2)]) zd0_271 zcV0_26 (Or.inl rfl) rfl b19 (by decide) rfl rfl rfl (Nat.le_of_ble_eq_true rfl) zm208 (Nat.le_of_ble_eq_true rfl) rfl ?_
    refine z_e1 (pc1 := 1) (L1 := [some (.ref 19), some (.int x1), some (.int x2)]) (S1 := [.ref 19]) zd208_0 rfl rfl rfl ?_
    refine z_e1 (pc1 := 2) (L1 := [some (.ref 19), some (.int x1), some (.int x2)]) (S1 := [.int x1, .ref 19]) zd208_1 rfl rfl rfl ?_
    refine z_ecV (vs := [.ref 19, .int x1]) (r := []) (L2 := [some (.ref 19), some (.int x1)]) zd208_2 zcV208_209 (Or.inl rfl) rfl b19 (by decide) rfl rfl rfl (Nat.le_of_ble_eq_true rfl) zm209 (Nat.le_of_ble_eq_true rfl) rfl ?_
    refine z_e1 (pc1 := 1) (L1 := [some (.ref 19), some (.int x1)]) (S1 := [.int x1]) zd209_0 rfl rfl rfl ?_
    refine z_ez (t := 16) (t2 := 16) zd209_1 rfl (z_b_ltx1 (k := 0) (by decide) (show x1.toInt < 0 from by omega)) ?_
    refine z_e1 (pc1 := 17) (L1 := [some (.ref 19), some (.int x1)]) (S1 := [.int 0]) zd209_16 rfl rfl rfl ?_
    refine z_erz zd209_17 zr209 (by decide) ?_
    show z_ev _ 208 5 [some (.ref 19), some (.int x1), some (.int x2)] [.int 0] _ _
    refine z_ez (t := 10) (t2 := 8) zd208_5 rfl rfl ?_
    refine z_e1 (pc1 := 9) (L1 := [some (.ref 19), some (.int x1), some (.int x2)]) (S1 := [.int (-1)]) zd208_8 rfl rfl rfl ?_
    refine z_eri zd208_9 zr208 ?_
    show z_ev _ 0 274 [some (.ref 0), some (.ref 4), some (.ref 19), some (.int 0)] [.int (-1), .int (-1)] _ _
    refine z_ej (t := 1775) (t2 := 1775) zd0_274 rfl rfl ?_
    refine z_e1 (pc1 := 1778) (L1 := [some (.ref 0), some (.ref 4), some (.ref 19), some (.int 6)]) (S1 := []) zd0_1775 rfl rfl rfl ?_
    refine z_e1 (pc1 := 18) (L1 := [some (.ref 0), some (.ref 4), some (.ref 19), some (.int 6)]) (S1 := []) zd0_1778 rfl rfl rfl ?_
    refine z_e1 (pc1 := 19) (L1 := [some (.ref 0), some (.ref 4), some (.ref 19), some (.int 6)]) (S1 := [.int 6]) zd0_18 rfl rfl rfl ?_
    refine z_e1 (pc1 := 20) (L1 := [some (.ref 0), some (.ref 4), some (.ref 19), some (.int 6)]) (S1 := [.ref 0, .int 6]) zd0_19 rfl rfl rfl ?_
    refine z_ealn (y := 6) zd0_20 h0 rfl ?_
    refine z_e1 (pc1 := 23) (L1 := [some (.ref 0), some (.ref 4), some (.ref 19), some (.int 6)]) (S1 := [.int 6, .int 6, .int 6]) zd0_21 rfl rfl rfl ?_
    refine z_e1 (pc1 := 24) (L1 := [some (.ref 0), some (.ref 4), some (.ref 19), some (.int 6)]) (S1 := [.int 0, .int 6]) zd0_23 rfl rfl rfl ?_
    refine z_ej (t := 1781) (t2 := 1781) zd0_24 rfl rfl ?_
    refine z_e1 (pc1 := 1782) (L1 := [some (.ref 0), some (.ref 4), some (.ref 19), some (.int 6)]) (S1 := [.int 1]) zd0_1781 rfl rfl rfl ?_
    refine z_erz zd0_1782 zr0 (by decide) ?_
    exact z_K1i hN hS (by decide) (by decide)
  · refine z_ez (t := 12) (t2 := 4) zd35_1 rfl (z_b_ltx0 (k := 0) (by decide) e1) ?_
    refine z_e1 (pc1 := 5) (L1 := [some (.ref 4), some (.int x1)]) (S1 := [.int x1]) zd35_4 rfl rfl rfl ?_
    refine z_e1 (pc1 := 6) (L1 := [some (.ref 4), some (.int x1)]) (S1 := [.ref 4, .int x1]) zd35_5 rfl rfl rfl ?_
    refine z_egf (fs := [.ref 5, .ref 10, .ref 11, .int 0, .ref 12, .int 0, .ref 13, .ref 14, .ref 15, .ref 16, .ref 17, .ref 18, .null]) (v := .int 0) zd35_6 zf35_59 b4 (by decide) (by decide) rfl ?_
    refine z_ej (t := 16) (t2 := 12) zd35_9 rfl (z_b_ltx0 (k := 0) (by decide) (show ¬ x1.toInt < 0 from by omega)) ?_
    refine z_e1 (pc1 := 13) (L1 := [some (.ref 4), some (.int x1)]) (S1 := [.null]) zd35_12 rfl rfl rfl ?_
    refine z_e1 (pc1 := 22) (L1 := [some (.ref 4), some (.int x1)]) (S1 := [.null]) zd35_13 rfl rfl rfl ?_
    refine z_ern zd35_22 zr35 ?_
    show z_ev _ 34 5 [some (.ref 4), some (.int x1), some (.int x2), none] [.null] _ _
    refine z_e1 (pc1 := 6) (L1 := [some (.ref 4), some (.int x1), some (.int x2), some (.null)]) (S1 := []) zd34_5 rfl rfl rfl ?_
    refine z_e1 (pc1 := 7) (L1 := [some (.ref 4), some (.int x1), some (.int x2), some (.null)]) (S1 := [.null]) zd34_6 rfl rfl rfl ?_
    refine z_e1 (pc1 := 10) (L1 := [some (.ref 4), some (.int x1), some (.int x2), some (.null)]) (S1 := []) zd34_7 rfl rfl rfl ?_
    refine z_e1 (pc1 := 11) (L1 := [some (.ref 4), some (.int x1), some (.int x2), some (.null)]) (S1 := [.int (-1)]) zd34_10 rfl rfl rfl ?_
    refine z_eri zd34_11 zr34 ?_
    show z_ev _ 0 260 [some (.ref 0), some (.ref 4), some (.ref 19), some (.int 0)] [.int (-1)] _ _
    refine z_e1 (pc1 := 261) (L1 := [some (.ref 0), some (.ref 4), some (.ref 19), some (.int 0)]) (S1 := [.ref 19, .int (-1)]) zd0_260 rfl rfl rfl ?_
    refine z_e1 (pc1 := 262) (L1 := [some (.ref 0), some (.ref 4), some (.ref 19), some (.int 0)]) (S1 := [.ref 0, .ref 19, .int (-1)]) zd0_261 rfl rfl rfl ?_
    refine z_e1 (pc1 := 263) (L1 := [some (.ref 0), some (.ref 4), some (.ref 19), some (.int 0)]) (S1 := [.int 0, .ref 0, .ref 19, .int (-1)]) zd0_262 rfl rfl rfl ?_
    refine z_e1 (pc1 := 264) (L1 := [some (.ref 0), some (.ref 4), some (.ref 19), some (.int 0)]) (S1 := [.int 1, .int 0, .ref 0, .ref 19, .int (-1)]) zd0_263 rfl rfl rfl ?_
    refine z_e1 (pc1 := 265) (L1 := [some (.ref 0), some (.ref 4), some (.ref 19), some (.int 0)]) (S1 := [.int 1, .ref 0, .ref 19, .int (-1)]) zd0_264 rfl rfl rfl ?_
    refine z_eial (y := x1) zd0_265 h0 (by decide) g1 ?_
    refine z_e1 (pc1 := 267) (L1 := [some (.ref 0), some (.ref 4), some (.ref 19), some (.int 0)]) (S1 := [.ref 0, .int x1, .ref 19, .int (-1)]) zd0_266 rfl rfl rfl ?_
    refine z_e1 (pc1 := 268) (L1 := [some (.ref 0), some (.ref 4), some (.ref 19), some (.int 0)]) (S1 := [.int 0, .ref 0, .int x1, .ref 19, .int (-1)]) zd0_267 rfl rfl rfl ?_
    refine z_e1 (pc1 := 269) (L1 := [some (.ref 0), some (.ref 4), some (.ref 19), some (.int 0)]) (S1 := [.int 2, .int 0, .ref 0, .int x1, .ref 19, .int (-1)]) zd0_268 rfl rfl rfl ?_
    refine z_e1 (pc1 := 270) (L1 := [some (.ref 0), some (.ref 4), some (.ref 19), some (.int 0)]) (S1 := [.int 2, .ref 0, .int x1, .ref 19, .int (-1)]) zd0_269 rfl rfl rfl ?_
    refine z_eial (y := x2) zd0_270 h0 (by decide) g2 ?_
    refine z_ecV (vs := [.ref 19, .int x1, .int x2]) (r := [.int (-1)]) (L2 := [some (.ref 19), some (.int x1), some (.int x2)]) zd0_271 zcV0_26 (Or.inl rfl) rfl b19 (by decide) rfl rfl rfl (Nat.le_of_ble_eq_true rfl) zm208 (Nat.le_of_ble_eq_true rfl) rfl ?_
    refine z_e1 (pc1 := 1) (L1 := [some (.ref 19), some (.int x1), some (.int x2)]) (S1 := [.ref 19]) zd208_0 rfl rfl rfl ?_
    refine z_e1 (pc1 := 2) (L1 := [some (.ref 19), some (.int x1), some (.int x2)]) (S1 := [.int x1, .ref 19]) zd208_1 rfl rfl rfl ?_
    refine z_ecV (vs := [.ref 19, .int x1]) (r := []) (L2 := [some (.ref 19), some (.int x1)]) zd208_2 zcV208_209 (Or.inl rfl) rfl b19 (by decide) rfl rfl rfl (Nat.le_of_ble_eq_true rfl) zm209 (Nat.le_of_ble_eq_true rfl) rfl ?_
    refine z_e1 (pc1 := 1) (L1 := [some (.ref 19), some (.int x1)]) (S1 := [.int x1]) zd209_0 rfl rfl rfl ?_
    refine z_ez (t := 16) (t2 := 4) zd209_1 rfl (z_b_ltx0 (k := 0) (by decide) (show ¬ x1.toInt < 0 from by omega)) ?_
    refine z_e1 (pc1 := 5) (L1 := [some (.ref 19), some (.int x1)]) (S1 := [.int x1]) zd209_4 rfl rfl rfl ?_
    refine z_e1 (pc1 := 6) (L1 := [some (.ref 19), some (.int x1)]) (S1 := [.ref 19, .int x1]) zd209_5 rfl rfl rfl ?_
    refine z_egf (fs := [.ref 20, .int 0, .ref 21, .ref 22, .ref 23, .ref 24, .ref 25, .ref 26, .ref 27, .ref 28, .ref 29, .ref 30, .ref 31, .int 0, .ref 32, .ref 33, .ref 34, .ref 35, .ref 36, .ref 37, .ref 38, .int 0, .int 0, .int 0, .int 0, .int 0, .int 0, .int 0, .int 0, .int 0, .int 0, .ref 39, .ref 40, .ref 41, .int 0, .int 0, .ref 42, .ref 43, .ref 44, .ref 45, .ref 46, .int 0, .ref 47, .int 0, .int 0, .int 0, .ref 48, .int 0, .int 0, .ref 49, .ref 50, .ref 51, .ref 52]) (v := .int 0) zd209_6 zf209_110 b19 (by decide) (by decide) rfl ?_
    refine z_ej (t := 16) (t2 := 16) zd209_9 rfl (z_b_gex0 (k := 0) (by decide) (show ¬ x1.toInt < 0 from by omega)) ?_
    refine z_e1 (pc1 := 17) (L1 := [some (.ref 19), some (.int x1)]) (S1 := [.int 0]) zd209_16 rfl rfl rfl ?_
    refine z_erz zd209_17 zr209 (by decide) ?_
    show z_ev _ 208 5 [some (.ref 19), some (.int x1), some (.int x2)] [.int 0] _ _
    refine z_ez (t := 10) (t2 := 8) zd208_5 rfl rfl ?_
    refine z_e1 (pc1 := 9) (L1 := [some (.ref 19), some (.int x1), some (.int x2)]) (S1 := [.int (-1)]) zd208_8 rfl rfl rfl ?_
    refine z_eri zd208_9 zr208 ?_
    show z_ev _ 0 274 [some (.ref 0), some (.ref 4), some (.ref 19), some (.int 0)] [.int (-1), .int (-1)] _ _
    refine z_ej (t := 1775) (t2 := 1775) zd0_274 rfl rfl ?_
    refine z_e1 (pc1 := 1778) (L1 := [some (.ref 0), some (.ref 4), some (.ref 19), some (.int 6)]) (S1 := []) zd0_1775 rfl rfl rfl ?_
    refine z_e1 (pc1 := 18) (L1 := [some (.ref 0), some (.ref 4), some (.ref 19), some (.int 6)]) (S1 := []) zd0_1778 rfl rfl rfl ?_
    refine z_e1 (pc1 := 19) (L1 := [some (.ref 0), some (.ref 4), some (.ref 19), some (.int 6)]) (S1 := [.int 6]) zd0_18 rfl rfl rfl ?_
    refine z_e1 (pc1 := 20) (L1 := [some (.ref 0), some (.ref 4), some (.ref 19), some (.int 6)]) (S1 := [.ref 0, .int 6]) zd0_19 rfl rfl rfl ?_
    refine z_ealn (y := 6) zd0_20 h0 rfl ?_
    refine z_e1 (pc1 := 23) (L1 := [some (.ref 0), some (.ref 4), some (.ref 19), some (.int 6)]) (S1 := [.int 6, .int 6, .int 6]) zd0_21 rfl rfl rfl ?_
    refine z_e1 (pc1 := 24) (L1 := [some (.ref 0), some (.ref 4), some (.ref 19), some (.int 6)]) (S1 := [.int 0, .int 6]) zd0_23 rfl rfl rfl ?_
    refine z_ej (t := 1781) (t2 := 1781) zd0_24 rfl rfl ?_
    refine z_e1 (pc1 := 1782) (L1 := [some (.ref 0), some (.ref 4), some (.ref 19), some (.int 6)]) (S1 := [.int 1]) zd0_1781 rfl rfl rfl ?_
    refine z_erz zd0_1782 zr0 (by decide) ?_
    exact z_K1i hN hS (by decide) (by decide)
end
section
/-- every script: the law's run on the mini-VM answers 1 -/
theorem z_all (L : Nat) (xs : Nat → Int32) (hL : L ≤ 6) : ∃ n d M1, z_run n d 0 0 (z_ent [.ref 0] 4) [] (z_M0 L xs) = some (some (.int 1), M1) ∧ d ≤ 2047 ∧ M1.length ≤ 600000 ∧ z_sz M1 ≤ 7302250 := by
  sorry
end
section
/-! the end: the claim out of the run -/
-- ===== YOUR PART BEGINS =====
/-- YOUR PART: from the entry, for every script of at most 6 ints, the law comes to its end with true ('hflags': the launch's flags, for a law that throws: no stack traces) -/
theorem whole_start {p : Program} {e : Env} {s : State} {m : MethodId} {below : List Frame} {meth : Method} {c : Code} (l : Launch) (hflags : l.flags = flags0) {b L : Nat} {xs : Nat → Int32} (hL : L ≤ 6) (C0 : lw_At p s m meth c b L xs) : W p l e room_1 s m #[Value.ref b] below meth c s.heap [] 0 0 (lw_Z below #[Value.ref b] s) (entryFrame m ([Value.ref b] : List Value).toArray 4) := by
  obtain ⟨n, d, M1, h1, h2, h3, h4⟩ := z_all L xs hL
  exact z_law l (by omega) C0 h1 h2 h3 h4
-- ===== YOUR PART ENDS =====
set_option maxHeartbeats 4000000 in
theorem lw_walk (l : Launch) (hflags : l.flags = flags0) (b : Addr) (xs : List Int32) : MetFree l x (headSpec (Jvm.Cond.code x code maxLocals ret :: tables_1) room_1) (lw_P b xs) (fun _ _ _ _ _ => True) lw_Q := by
  refine MetFree.of_bodyS (code := code) (maxLocals := maxLocals) (ret := ret) (by decide) ?_ ?_
  · intro args s m h hn
    obtain ⟨meth, c, h1, h2, h3, h4, h5, h6, -, -⟩ := Cond.code_spec hn (atoms_spec (ws := Jvm.Cond.code x code maxLocals ret :: tables_1) h _ List.mem_cons_self)
    exact ⟨meth, c, h1, h2, h3, h4, h5, h6⟩
  · intro p e s m args below meth c s₁ B hml0 hP _
    obtain ⟨rfl, hx, hbd, hgv⟩ := hP
    obtain ⟨scr, harrAt, hlist, hof, hsmall⟩ := hx
    obtain ⟨hcb, hkn, -, -⟩ := State.arrayAt?_spec harrAt
    have hown : s.vm.findClass R_law = some m.cls := findClass_of_methodNamed B.named
    have hts0 : ∀ c ∈ (Jvm.Cond.code x code maxLocals ret :: tables_1), c.before #[Value.ref b] s = true := atoms_spec (ws := Jvm.Cond.code x code maxLocals ret :: tables_1) B.pre
    have hts : ∀ w ∈ lw_tbl, w.before #[Value.ref b] s = true := k2_hts_sels lw_privs (fun w hw => hts0 w (List.mem_cons_of_mem _ hw)) lw_privs_ok
    have hml : c.maxLocals = 4 := B.maxLocals_eq (hts0 _ List.mem_cons_self)
    have X₀ : Stand p l e room_1 s m #[Value.ref b] below meth c s₁ [] 0 0 := Stand.of_body B
    have hh0 : s₁.heap = s.heap := by rw [B.state]; rfl
    have hsz : scr.slots.size = xs.length := by rw [← Array.length_toList, hlist, List.length_map]
    have hval : ∀ j : Nat, j < xs.length → scr.slots[j]? = some (.int (xs.getD j 0)) := fun j hj => by
      rw [← Array.getElem?_toList, hlist]
      simp [hj]
    have hbl : b < s.heap.size := (Array.getElem?_eq_some_iff.mp hcb).1
    have hX : va_X b xs.length (fun j => xs.getD j 0) s s.heap := ⟨scr, hcb, hof, hkn, hsz, hval⟩
    have K : W p l e room_1 s m #[Value.ref b] below meth c s₁.heap [] 0 0 (lw_Z below #[Value.ref b] s) (entryFrame m ([Value.ref b] : List Value).toArray 4) := by
      rw [hh0]
      exact whole_start l hflags hbd ⟨B.exec, B.bytes, B.returns, hml, hown, hts, hX, hbl, B.notSynchronized, hgv⟩
    obtain ⟨t, a1, o, b1, b2, b3⟩ := K s₁ rfl X₀
    exact ⟨t, o, a1, b1, b2, b3⟩
theorem lw_pre_spec {args : Array Value} {s : State} (h : (Jvm.Cond.and given_1 narrow_1).before args s = true) (hr : rest_1_c.before args s = true) : ∃ (b : Addr) (xs : List Int32), lw_P b xs args s := by
  have hs := flat_of_before _ h
  have hq := flat_of_before _ hr
  have hc : (Cond.count 1).before args s = true := hs _ (by decide +kernel)
  have harr : (Cond.arrayOf (.arg 0) .int).before args s = true := hs _ (by decide +kernel)
  have hle : (Cond.le (.length (.arg 0)) (.int 6)).before args s = true := hs _ (by decide +kernel)
  have hlen : (Cond.isInt (.length (.arg 0))).before args s = true := hq _ (by decide +kernel)
  have hall : (Cond.all (.arg 0) (.isInt (.elem (.arg 0) (.index 0)))).before args s = true := hq _ (by decide +kernel)
  obtain ⟨b, xs, hb, hx⟩ := State.ints_of_pre rfl harr hlen hall
  have hsm : xs.length < 2 ^ 31 := hx.choose_spec.2.2.2
  have hev : (Term.length (.arg 0)).eval args s none [] s = some (.int xs.length.toInt32) := hx.length_eval hb
  have hv := Cond.le_ints hev (show (Term.int 6).eval args s none [] s = some (.int 6) from rfl)
  have hd : xs.length.toInt32 ≤ 6 := by
    simpa [Cond.before, Cond.holds, hv] using hle
  have hN : xs.length ≤ 6 := (Int32.ofNat_le_ofNat hsm (by decide)).mp (show Int32.ofNat xs.length ≤ Int32.ofNat 6 from hd)
  exact ⟨b, xs, Cond.one_arg hc (show args[0]? = some (.ref b) from hb), hx, hN, h⟩
theorem lw_comes (l : Launch) (hflags : l.flags = flags0) : Comes l x (Jvm.Cond.code x code maxLocals ret :: tables_1) room_1 (fun tb e args s => Calls_1 tb e args s ∧ rest_1 tb e args s ∧ Pre_1 tb e args s)
    (fun _ _ args s o t => lw_Q args s o t) := by
  intro p e ha hc hk s m args below hf hfit hheap happ hpre
  obtain ⟨b, xs, hP⟩ := lw_pre_spec hpre.2.2 hpre.2.1
  obtain ⟨k, o, h1, h2, h3, hQ⟩ := lw_walk l hflags b xs p e ha hc hk s m args below hf ((Spec.applies_iff_loose hf).mp happ).1 hP trivial
  exact ⟨k, o, h1, h2, h3, hQ⟩
theorem lw_frame {s t : State} {o : Outcome} {args : Array Value} (h : Framed s o t [] 600000 7302250) :
    Framed s o t (fieldLocs frame_1_writes args s ++ arrayLocs frame_1_arrays args s ++ staticLocs frame_1_statics s) 600000 7302250 := h
theorem lw_limb (L : Cond) (hL : ∀ (args : Array Value) (s t : State), L.after args s (.returned (some (.int 1))) t = true) :
    ArmFor flags0 classFile x code maxLocals ret World_1 tables_1 room_1 Calls_1 rest_1 Pre_1
      (fun tb e a s o t => postC L tb e a s o t ∧ Framed s o t (fieldLocs frame_1_writes a s ++ arrayLocs frame_1_arrays a s ++ staticLocs frame_1_statics s) 600000 7302250) := by
  intro l hflags _ _ p e ha hc hk s m args below hf hfit hheap happ hpre
  obtain ⟨k, o, h1, h2, h3, rfl, hF⟩ := lw_comes l hflags p e ha hc hk s m args below hf hfit hheap happ hpre
  exact ⟨k, _, h1, h2, h3, hL args s _, lw_frame hF⟩
theorem i_vc : Claimed_1_1 ∧ Claimed_1_2 := ⟨lw_limb limb_1_1 (fun args s t => by simp [limb_1_1, Cond.after, Cond.holds, Cond.value]), lw_limb limb_1_2 (fun args s t => Cond.after_iff.mpr (by
  first | (rw [show limb_1_2 = Cond.eq .result (.int 1) from rfl, Cond.eq_ints (x := 1) (y := 1) rfl rfl]; simp; done) | (simp [limb_1_2, Cond.value, Term.eval]; done)))⟩
end
