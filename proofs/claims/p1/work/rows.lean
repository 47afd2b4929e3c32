section
-- ===== PART A: goes FIRST, ahead of the names: the tables' words, and 'selects' of the private methods out of them =====
/-- a private method of a class that the tables say can be made, by its rows of tables_1 -/
def lw_okq (q : MethodName × Nat) : Prop := (q.1.cls ≠ "java/lang/invoke/MethodHandle" ∧ q.1.cls ≠ "java/lang/invoke/VarHandle") ∧ Cond.instantiable q.1.cls q.2 ∈ tables_1 ∧ Cond.privateMethod q.1 ∈ tables_1 ∧ Cond.instanceMethod q.1 ∈ tables_1
theorem lw_p0 : lw_okq (⟨"DoorBench$Tape", "expect", "(I)V"⟩, 12) := ⟨⟨by decide +kernel, by decide +kernel⟩, List.mem_of_getElem? (i := 29) (by decide +kernel), List.mem_of_getElem? (i := 138) (by decide +kernel), List.mem_of_getElem? (i := 139) (by decide +kernel)⟩
theorem lw_p1 : lw_okq (⟨"DoorBench$Tape", "nameQuestions", "()V"⟩, 12) := ⟨⟨by decide +kernel, by decide +kernel⟩, List.mem_of_getElem? (i := 29) (by decide +kernel), List.mem_of_getElem? (i := 142) (by decide +kernel), List.mem_of_getElem? (i := 143) (by decide +kernel)⟩
theorem lw_p2 : lw_okq (⟨"DoorBench$Tape", "fail", "()V"⟩, 12) := ⟨⟨by decide +kernel, by decide +kernel⟩, List.mem_of_getElem? (i := 29) (by decide +kernel), List.mem_of_getElem? (i := 146) (by decide +kernel), List.mem_of_getElem? (i := 147) (by decide +kernel)⟩
theorem lw_p3 : lw_okq (⟨"DoorBench$Tape", "anotherPart", "()V"⟩, 12) := ⟨⟨by decide +kernel, by decide +kernel⟩, List.mem_of_getElem? (i := 29) (by decide +kernel), List.mem_of_getElem? (i := 150) (by decide +kernel), List.mem_of_getElem? (i := 151) (by decide +kernel)⟩
theorem lw_p4 : lw_okq (⟨"DoorBench$Tape", "passes", "(I)Z"⟩, 12) := ⟨⟨by decide +kernel, by decide +kernel⟩, List.mem_of_getElem? (i := 29) (by decide +kernel), List.mem_of_getElem? (i := 154) (by decide +kernel), List.mem_of_getElem? (i := 155) (by decide +kernel)⟩
theorem lw_p5 : lw_okq (⟨"DoorBench$Tape", "someQuestions", "()I"⟩, 12) := ⟨⟨by decide +kernel, by decide +kernel⟩, List.mem_of_getElem? (i := 29) (by decide +kernel), List.mem_of_getElem? (i := 158) (by decide +kernel), List.mem_of_getElem? (i := 159) (by decide +kernel)⟩
theorem lw_p6 : lw_okq (⟨"DoorBench$Tape", "questionHere", "()I"⟩, 12) := ⟨⟨by decide +kernel, by decide +kernel⟩, List.mem_of_getElem? (i := 29) (by decide +kernel), List.mem_of_getElem? (i := 162) (by decide +kernel), List.mem_of_getElem? (i := 163) (by decide +kernel)⟩
theorem lw_p7 : lw_okq (⟨"DoorBench$Tape", "tie", "(I)J"⟩, 12) := ⟨⟨by decide +kernel, by decide +kernel⟩, List.mem_of_getElem? (i := 29) (by decide +kernel), List.mem_of_getElem? (i := 166) (by decide +kernel), List.mem_of_getElem? (i := 167) (by decide +kernel)⟩
theorem lw_p8 : lw_okq (⟨"DoorBench$Tape", "either", "(I)J"⟩, 12) := ⟨⟨by decide +kernel, by decide +kernel⟩, List.mem_of_getElem? (i := 29) (by decide +kernel), List.mem_of_getElem? (i := 171) (by decide +kernel), List.mem_of_getElem? (i := 172) (by decide +kernel)⟩
theorem lw_p9 : lw_okq (⟨"DoorBench$Tape", "simple", "(I)J"⟩, 12) := ⟨⟨by decide +kernel, by decide +kernel⟩, List.mem_of_getElem? (i := 29) (by decide +kernel), List.mem_of_getElem? (i := 175) (by decide +kernel), List.mem_of_getElem? (i := 176) (by decide +kernel)⟩
theorem lw_p10 : lw_okq (⟨"DoorBench$Tape", "yesSets", "(I)J"⟩, 12) := ⟨⟨by decide +kernel, by decide +kernel⟩, List.mem_of_getElem? (i := 29) (by decide +kernel), List.mem_of_getElem? (i := 179) (by decide +kernel), List.mem_of_getElem? (i := 180) (by decide +kernel)⟩
theorem lw_p11 : lw_okq (⟨"DoorBench$Tape", "atLeast", "(II)J"⟩, 12) := ⟨⟨by decide +kernel, by decide +kernel⟩, List.mem_of_getElem? (i := 29) (by decide +kernel), List.mem_of_getElem? (i := 185) (by decide +kernel), List.mem_of_getElem? (i := 186) (by decide +kernel)⟩
theorem lw_p12 : lw_okq (⟨"DoorBench$Agenda", "keptWithout", "(II)J"⟩, 14) := ⟨⟨by decide +kernel, by decide +kernel⟩, List.mem_of_getElem? (i := 199) (by decide +kernel), List.mem_of_getElem? (i := 206) (by decide +kernel), List.mem_of_getElem? (i := 207) (by decide +kernel)⟩
theorem lw_p13 : lw_okq (⟨"DoorBench$Agenda", "listSets", "()V"⟩, 14) := ⟨⟨by decide +kernel, by decide +kernel⟩, List.mem_of_getElem? (i := 199) (by decide +kernel), List.mem_of_getElem? (i := 216) (by decide +kernel), List.mem_of_getElem? (i := 217) (by decide +kernel)⟩
theorem lw_p14 : lw_okq (⟨"DoorBench", "found", "(LDoorBench$Agenda;)I"⟩, 13) := ⟨⟨by decide +kernel, by decide +kernel⟩, List.mem_of_getElem? (i := 21) (by decide +kernel), List.mem_of_getElem? (i := 287) (by decide +kernel), List.mem_of_getElem? (i := 288) (by decide +kernel)⟩
theorem lw_p15 : lw_okq (⟨"DoorBench$Agenda", "noneKeeps", "(I)Z"⟩, 14) := ⟨⟨by decide +kernel, by decide +kernel⟩, List.mem_of_getElem? (i := 199) (by decide +kernel), List.mem_of_getElem? (i := 301) (by decide +kernel), List.mem_of_getElem? (i := 302) (by decide +kernel)⟩
def lw_privs_1 : List (MethodName × Nat) := [(⟨"DoorBench$Tape", "expect", "(I)V"⟩, 12), (⟨"DoorBench$Tape", "nameQuestions", "()V"⟩, 12), (⟨"DoorBench$Tape", "fail", "()V"⟩, 12), (⟨"DoorBench$Tape", "anotherPart", "()V"⟩, 12), (⟨"DoorBench$Tape", "passes", "(I)Z"⟩, 12), (⟨"DoorBench$Tape", "someQuestions", "()I"⟩, 12), (⟨"DoorBench$Tape", "questionHere", "()I"⟩, 12), (⟨"DoorBench$Tape", "tie", "(I)J"⟩, 12), (⟨"DoorBench$Tape", "either", "(I)J"⟩, 12), (⟨"DoorBench$Tape", "simple", "(I)J"⟩, 12), (⟨"DoorBench$Tape", "yesSets", "(I)J"⟩, 12), (⟨"DoorBench$Tape", "atLeast", "(II)J"⟩, 12), (⟨"DoorBench$Agenda", "keptWithout", "(II)J"⟩, 14), (⟨"DoorBench$Agenda", "listSets", "()V"⟩, 14), (⟨"DoorBench", "found", "(LDoorBench$Agenda;)I"⟩, 13), (⟨"DoorBench$Agenda", "noneKeeps", "(I)Z"⟩, 14)]
theorem lw_r1 : ∀ q ∈ lw_privs_1, lw_okq q := List.forall_mem_cons.mpr ⟨lw_p0, List.forall_mem_cons.mpr ⟨lw_p1, List.forall_mem_cons.mpr ⟨lw_p2, List.forall_mem_cons.mpr ⟨lw_p3, List.forall_mem_cons.mpr ⟨lw_p4, List.forall_mem_cons.mpr ⟨lw_p5, List.forall_mem_cons.mpr ⟨lw_p6, List.forall_mem_cons.mpr ⟨lw_p7, List.forall_mem_cons.mpr ⟨lw_p8, List.forall_mem_cons.mpr ⟨lw_p9, List.forall_mem_cons.mpr ⟨lw_p10, List.forall_mem_cons.mpr ⟨lw_p11, List.forall_mem_cons.mpr ⟨lw_p12, List.forall_mem_cons.mpr ⟨lw_p13, List.forall_mem_cons.mpr ⟨lw_p14, List.forall_mem_cons.mpr ⟨lw_p15, fun _ h => absurd h List.not_mem_nil⟩⟩⟩⟩⟩⟩⟩⟩⟩⟩⟩⟩⟩⟩⟩⟩
theorem lw_p16 : lw_okq (⟨"DoorBench", "benchOf", "(I)LDoorBench$Bench;"⟩, 13) := ⟨⟨by decide +kernel, by decide +kernel⟩, List.mem_of_getElem? (i := 21) (by decide +kernel), List.mem_of_getElem? (i := 372) (by decide +kernel), List.mem_of_getElem? (i := 373) (by decide +kernel)⟩
theorem lw_p17 : lw_okq (⟨"DoorBench", "agendaOf", "(I)LDoorBench$Agenda;"⟩, 13) := ⟨⟨by decide +kernel, by decide +kernel⟩, List.mem_of_getElem? (i := 21) (by decide +kernel), List.mem_of_getElem? (i := 380) (by decide +kernel), List.mem_of_getElem? (i := 381) (by decide +kernel)⟩
theorem lw_p18 : lw_okq (⟨"DoorBench$Agenda", "setsHaving", "(II)J"⟩, 14) := ⟨⟨by decide +kernel, by decide +kernel⟩, List.mem_of_getElem? (i := 199) (by decide +kernel), List.mem_of_getElem? (i := 397) (by decide +kernel), List.mem_of_getElem? (i := 398) (by decide +kernel)⟩
theorem lw_p19 : lw_okq (⟨"DoorBench$Agenda", "having", "(II)J"⟩, 14) := ⟨⟨by decide +kernel, by decide +kernel⟩, List.mem_of_getElem? (i := 199) (by decide +kernel), List.mem_of_getElem? (i := 414) (by decide +kernel), List.mem_of_getElem? (i := 415) (by decide +kernel)⟩
theorem lw_p20 : lw_okq (⟨"DoorBench", "answersFrom", "(III)I"⟩, 13) := ⟨⟨by decide +kernel, by decide +kernel⟩, List.mem_of_getElem? (i := 21) (by decide +kernel), List.mem_of_getElem? (i := 471) (by decide +kernel), List.mem_of_getElem? (i := 472) (by decide +kernel)⟩
theorem lw_p21 : lw_okq (⟨"DoorBench$Bench", "sumLeans", "()V"⟩, 12) := ⟨⟨by decide +kernel, by decide +kernel⟩, List.mem_of_getElem? (i := 304) (by decide +kernel), List.mem_of_getElem? (i := 517) (by decide +kernel), List.mem_of_getElem? (i := 518) (by decide +kernel)⟩
theorem lw_p22 : lw_okq (⟨"DoorBench$Bench", "leanOf", "(I)I"⟩, 12) := ⟨⟨by decide +kernel, by decide +kernel⟩, List.mem_of_getElem? (i := 304) (by decide +kernel), List.mem_of_getElem? (i := 531) (by decide +kernel), List.mem_of_getElem? (i := 532) (by decide +kernel)⟩
theorem lw_p23 : lw_okq (⟨"DoorBench", "bodyOf", "(III)LDoorBench$Way;"⟩, 13) := ⟨⟨by decide +kernel, by decide +kernel⟩, List.mem_of_getElem? (i := 21) (by decide +kernel), List.mem_of_getElem? (i := 541) (by decide +kernel), List.mem_of_getElem? (i := 542) (by decide +kernel)⟩
theorem lw_p24 : lw_okq (⟨"DoorBench", "bodyAt", "(I)LDoorBench$Way;"⟩, 13) := ⟨⟨by decide +kernel, by decide +kernel⟩, List.mem_of_getElem? (i := 21) (by decide +kernel), List.mem_of_getElem? (i := 663) (by decide +kernel), List.mem_of_getElem? (i := 664) (by decide +kernel)⟩
theorem lw_p25 : lw_okq (⟨"DoorBench$Bench", "isYesInTurn", "(IZ)Z"⟩, 12) := ⟨⟨by decide +kernel, by decide +kernel⟩, List.mem_of_getElem? (i := 304) (by decide +kernel), List.mem_of_getElem? (i := 696) (by decide +kernel), List.mem_of_getElem? (i := 697) (by decide +kernel)⟩
theorem lw_p26 : lw_okq (⟨"DoorBench", "refusalOfAll", "(II)I"⟩, 13) := ⟨⟨by decide +kernel, by decide +kernel⟩, List.mem_of_getElem? (i := 21) (by decide +kernel), List.mem_of_getElem? (i := 748) (by decide +kernel), List.mem_of_getElem? (i := 749) (by decide +kernel)⟩
theorem lw_p27 : lw_okq (⟨"DoorBench$Way", "recall", "(LDoorBench$Bench;I[I)I"⟩, 5) := ⟨⟨by decide +kernel, by decide +kernel⟩, List.mem_of_getElem? (i := 650) (by decide +kernel), List.mem_of_getElem? (i := 874) (by decide +kernel), List.mem_of_getElem? (i := 875) (by decide +kernel)⟩
theorem lw_p28 : lw_okq (⟨"DoorBench$Way", "twists", "(LDoorBench$Bench;II[I)Z"⟩, 5) := ⟨⟨by decide +kernel, by decide +kernel⟩, List.mem_of_getElem? (i := 650) (by decide +kernel), List.mem_of_getElem? (i := 895) (by decide +kernel), List.mem_of_getElem? (i := 896) (by decide +kernel)⟩
theorem lw_p29 : lw_okq (⟨"DoorBench", "refusalOfRows", "(II)I"⟩, 13) := ⟨⟨by decide +kernel, by decide +kernel⟩, List.mem_of_getElem? (i := 21) (by decide +kernel), List.mem_of_getElem? (i := 913) (by decide +kernel), List.mem_of_getElem? (i := 914) (by decide +kernel)⟩
theorem lw_p30 : lw_okq (⟨"DoorBench$Bench", "numberAll", "(I)V"⟩, 12) := ⟨⟨by decide +kernel, by decide +kernel⟩, List.mem_of_getElem? (i := 304) (by decide +kernel), List.mem_of_getElem? (i := 937) (by decide +kernel), List.mem_of_getElem? (i := 938) (by decide +kernel)⟩
theorem lw_p31 : lw_okq (⟨"DoorBench$Bench", "numberIn", "(II)I"⟩, 12) := ⟨⟨by decide +kernel, by decide +kernel⟩, List.mem_of_getElem? (i := 304) (by decide +kernel), List.mem_of_getElem? (i := 941) (by decide +kernel), List.mem_of_getElem? (i := 942) (by decide +kernel)⟩
def lw_privs_2 : List (MethodName × Nat) := [(⟨"DoorBench", "benchOf", "(I)LDoorBench$Bench;"⟩, 13), (⟨"DoorBench", "agendaOf", "(I)LDoorBench$Agenda;"⟩, 13), (⟨"DoorBench$Agenda", "setsHaving", "(II)J"⟩, 14), (⟨"DoorBench$Agenda", "having", "(II)J"⟩, 14), (⟨"DoorBench", "answersFrom", "(III)I"⟩, 13), (⟨"DoorBench$Bench", "sumLeans", "()V"⟩, 12), (⟨"DoorBench$Bench", "leanOf", "(I)I"⟩, 12), (⟨"DoorBench", "bodyOf", "(III)LDoorBench$Way;"⟩, 13), (⟨"DoorBench", "bodyAt", "(I)LDoorBench$Way;"⟩, 13), (⟨"DoorBench$Bench", "isYesInTurn", "(IZ)Z"⟩, 12), (⟨"DoorBench", "refusalOfAll", "(II)I"⟩, 13), (⟨"DoorBench$Way", "recall", "(LDoorBench$Bench;I[I)I"⟩, 5), (⟨"DoorBench$Way", "twists", "(LDoorBench$Bench;II[I)Z"⟩, 5), (⟨"DoorBench", "refusalOfRows", "(II)I"⟩, 13), (⟨"DoorBench$Bench", "numberAll", "(I)V"⟩, 12), (⟨"DoorBench$Bench", "numberIn", "(II)I"⟩, 12)]
theorem lw_r2 : ∀ q ∈ lw_privs_2, lw_okq q := List.forall_mem_cons.mpr ⟨lw_p16, List.forall_mem_cons.mpr ⟨lw_p17, List.forall_mem_cons.mpr ⟨lw_p18, List.forall_mem_cons.mpr ⟨lw_p19, List.forall_mem_cons.mpr ⟨lw_p20, List.forall_mem_cons.mpr ⟨lw_p21, List.forall_mem_cons.mpr ⟨lw_p22, List.forall_mem_cons.mpr ⟨lw_p23, List.forall_mem_cons.mpr ⟨lw_p24, List.forall_mem_cons.mpr ⟨lw_p25, List.forall_mem_cons.mpr ⟨lw_p26, List.forall_mem_cons.mpr ⟨lw_p27, List.forall_mem_cons.mpr ⟨lw_p28, List.forall_mem_cons.mpr ⟨lw_p29, List.forall_mem_cons.mpr ⟨lw_p30, List.forall_mem_cons.mpr ⟨lw_p31, fun _ h => absurd h List.not_mem_nil⟩⟩⟩⟩⟩⟩⟩⟩⟩⟩⟩⟩⟩⟩⟩⟩
theorem lw_p32 : lw_okq (⟨"DoorBench$Bench", "firstUnalike", "([II)I"⟩, 12) := ⟨⟨by decide +kernel, by decide +kernel⟩, List.mem_of_getElem? (i := 304) (by decide +kernel), List.mem_of_getElem? (i := 950) (by decide +kernel), List.mem_of_getElem? (i := 951) (by decide +kernel)⟩
theorem lw_p33 : lw_okq (⟨"DoorBench$Bench", "rowInOrder", "(I)I"⟩, 12) := ⟨⟨by decide +kernel, by decide +kernel⟩, List.mem_of_getElem? (i := 304) (by decide +kernel), List.mem_of_getElem? (i := 954) (by decide +kernel), List.mem_of_getElem? (i := 955) (by decide +kernel)⟩
theorem lw_p34 : lw_okq (⟨"DoorBench$Bench", "firstNotOwn", "([II)I"⟩, 12) := ⟨⟨by decide +kernel, by decide +kernel⟩, List.mem_of_getElem? (i := 304) (by decide +kernel), List.mem_of_getElem? (i := 958) (by decide +kernel), List.mem_of_getElem? (i := 959) (by decide +kernel)⟩
theorem lw_p35 : lw_okq (⟨"DoorBench$Bench", "whoSaysYes", "(I)I"⟩, 12) := ⟨⟨by decide +kernel, by decide +kernel⟩, List.mem_of_getElem? (i := 304) (by decide +kernel), List.mem_of_getElem? (i := 962) (by decide +kernel), List.mem_of_getElem? (i := 963) (by decide +kernel)⟩
theorem lw_p36 : lw_okq (⟨"DoorBench$Bench", "firstOtherMind", "([II)I"⟩, 12) := ⟨⟨by decide +kernel, by decide +kernel⟩, List.mem_of_getElem? (i := 304) (by decide +kernel), List.mem_of_getElem? (i := 966) (by decide +kernel), List.mem_of_getElem? (i := 967) (by decide +kernel)⟩
theorem lw_p37 : lw_okq (⟨"DoorBench$Bench", "firstUnlawful", "([II)I"⟩, 12) := ⟨⟨by decide +kernel, by decide +kernel⟩, List.mem_of_getElem? (i := 304) (by decide +kernel), List.mem_of_getElem? (i := 971) (by decide +kernel), List.mem_of_getElem? (i := 972) (by decide +kernel)⟩
theorem lw_p38 : lw_okq (⟨"DoorBench$Bench", "firstSomebody", "([II)I"⟩, 12) := ⟨⟨by decide +kernel, by decide +kernel⟩, List.mem_of_getElem? (i := 304) (by decide +kernel), List.mem_of_getElem? (i := 976) (by decide +kernel), List.mem_of_getElem? (i := 977) (by decide +kernel)⟩
theorem lw_p39 : lw_okq (⟨"DoorBench$Agenda", "isSafeWithout", "(II)Z"⟩, 14) := ⟨⟨by decide +kernel, by decide +kernel⟩, List.mem_of_getElem? (i := 199) (by decide +kernel), List.mem_of_getElem? (i := 997) (by decide +kernel), List.mem_of_getElem? (i := 998) (by decide +kernel)⟩
theorem lw_p40 : lw_okq (⟨"DoorBench$Agenda", "listFew", "(I)I"⟩, 14) := ⟨⟨by decide +kernel, by decide +kernel⟩, List.mem_of_getElem? (i := 199) (by decide +kernel), List.mem_of_getElem? (i := 1001) (by decide +kernel), List.mem_of_getElem? (i := 1002) (by decide +kernel)⟩
theorem lw_p41 : lw_okq (⟨"DoorBench$Agenda", "foursStand", "(I)Z"⟩, 14) := ⟨⟨by decide +kernel, by decide +kernel⟩, List.mem_of_getElem? (i := 199) (by decide +kernel), List.mem_of_getElem? (i := 1009) (by decide +kernel), List.mem_of_getElem? (i := 1010) (by decide +kernel)⟩
theorem lw_p42 : lw_okq (⟨"DoorBench$Agenda", "someOfFew", "(III)Z"⟩, 14) := ⟨⟨by decide +kernel, by decide +kernel⟩, List.mem_of_getElem? (i := 199) (by decide +kernel), List.mem_of_getElem? (i := 1013) (by decide +kernel), List.mem_of_getElem? (i := 1014) (by decide +kernel)⟩
theorem lw_p43 : lw_okq (⟨"DoorBench$Agenda", "threesStand", "(I)Z"⟩, 14) := ⟨⟨by decide +kernel, by decide +kernel⟩, List.mem_of_getElem? (i := 199) (by decide +kernel), List.mem_of_getElem? (i := 1017) (by decide +kernel), List.mem_of_getElem? (i := 1018) (by decide +kernel)⟩
theorem lw_p44 : lw_okq (⟨"DoorBench$Bench", "orderDigits", "()I"⟩, 12) := ⟨⟨by decide +kernel, by decide +kernel⟩, List.mem_of_getElem? (i := 304) (by decide +kernel), List.mem_of_getElem? (i := 1031) (by decide +kernel), List.mem_of_getElem? (i := 1032) (by decide +kernel)⟩
theorem lw_p45 : lw_okq (⟨"DoorBench$Bench", "nextOrder", "()V"⟩, 12) := ⟨⟨by decide +kernel, by decide +kernel⟩, List.mem_of_getElem? (i := 304) (by decide +kernel), List.mem_of_getElem? (i := 1035) (by decide +kernel), List.mem_of_getElem? (i := 1036) (by decide +kernel)⟩
theorem lw_p46 : lw_okq (⟨"DoorBench$Bench", "swapOrder", "(II)V"⟩, 12) := ⟨⟨by decide +kernel, by decide +kernel⟩, List.mem_of_getElem? (i := 304) (by decide +kernel), List.mem_of_getElem? (i := 1039) (by decide +kernel), List.mem_of_getElem? (i := 1040) (by decide +kernel)⟩
theorem lw_p47 : lw_okq (⟨"DoorBench", "refusalOfPlace", "(II)I"⟩, 13) := ⟨⟨by decide +kernel, by decide +kernel⟩, List.mem_of_getElem? (i := 21) (by decide +kernel), List.mem_of_getElem? (i := 1180) (by decide +kernel), List.mem_of_getElem? (i := 1181) (by decide +kernel)⟩
def lw_privs_3 : List (MethodName × Nat) := [(⟨"DoorBench$Bench", "firstUnalike", "([II)I"⟩, 12), (⟨"DoorBench$Bench", "rowInOrder", "(I)I"⟩, 12), (⟨"DoorBench$Bench", "firstNotOwn", "([II)I"⟩, 12), (⟨"DoorBench$Bench", "whoSaysYes", "(I)I"⟩, 12), (⟨"DoorBench$Bench", "firstOtherMind", "([II)I"⟩, 12), (⟨"DoorBench$Bench", "firstUnlawful", "([II)I"⟩, 12), (⟨"DoorBench$Bench", "firstSomebody", "([II)I"⟩, 12), (⟨"DoorBench$Agenda", "isSafeWithout", "(II)Z"⟩, 14), (⟨"DoorBench$Agenda", "listFew", "(I)I"⟩, 14), (⟨"DoorBench$Agenda", "foursStand", "(I)Z"⟩, 14), (⟨"DoorBench$Agenda", "someOfFew", "(III)Z"⟩, 14), (⟨"DoorBench$Agenda", "threesStand", "(I)Z"⟩, 14), (⟨"DoorBench$Bench", "orderDigits", "()I"⟩, 12), (⟨"DoorBench$Bench", "nextOrder", "()V"⟩, 12), (⟨"DoorBench$Bench", "swapOrder", "(II)V"⟩, 12), (⟨"DoorBench", "refusalOfPlace", "(II)I"⟩, 13)]
theorem lw_r3 : ∀ q ∈ lw_privs_3, lw_okq q := List.forall_mem_cons.mpr ⟨lw_p32, List.forall_mem_cons.mpr ⟨lw_p33, List.forall_mem_cons.mpr ⟨lw_p34, List.forall_mem_cons.mpr ⟨lw_p35, List.forall_mem_cons.mpr ⟨lw_p36, List.forall_mem_cons.mpr ⟨lw_p37, List.forall_mem_cons.mpr ⟨lw_p38, List.forall_mem_cons.mpr ⟨lw_p39, List.forall_mem_cons.mpr ⟨lw_p40, List.forall_mem_cons.mpr ⟨lw_p41, List.forall_mem_cons.mpr ⟨lw_p42, List.forall_mem_cons.mpr ⟨lw_p43, List.forall_mem_cons.mpr ⟨lw_p44, List.forall_mem_cons.mpr ⟨lw_p45, List.forall_mem_cons.mpr ⟨lw_p46, List.forall_mem_cons.mpr ⟨lw_p47, fun _ h => absurd h List.not_mem_nil⟩⟩⟩⟩⟩⟩⟩⟩⟩⟩⟩⟩⟩⟩⟩⟩
theorem lw_p48 : lw_okq (⟨"DoorBench", "hasPlaces", "(III)Z"⟩, 13) := ⟨⟨by decide +kernel, by decide +kernel⟩, List.mem_of_getElem? (i := 21) (by decide +kernel), List.mem_of_getElem? (i := 1196) (by decide +kernel), List.mem_of_getElem? (i := 1197) (by decide +kernel)⟩
theorem lw_p49 : lw_okq (⟨"DoorBench", "allJudges", "()I"⟩, 13) := ⟨⟨by decide +kernel, by decide +kernel⟩, List.mem_of_getElem? (i := 21) (by decide +kernel), List.mem_of_getElem? (i := 1224) (by decide +kernel), List.mem_of_getElem? (i := 1225) (by decide +kernel)⟩
theorem lw_p50 : lw_okq (⟨"DoorBenchModel", "firstPart", "()V"⟩, 53) := ⟨⟨by decide +kernel, by decide +kernel⟩, List.mem_of_getElem? (i := 1228) (by decide +kernel), List.mem_of_getElem? (i := 1406) (by decide +kernel), List.mem_of_getElem? (i := 1407) (by decide +kernel)⟩
theorem lw_p51 : lw_okq (⟨"DoorBenchModel", "takes", "(I)Z"⟩, 53) := ⟨⟨by decide +kernel, by decide +kernel⟩, List.mem_of_getElem? (i := 1228) (by decide +kernel), List.mem_of_getElem? (i := 1410) (by decide +kernel), List.mem_of_getElem? (i := 1411) (by decide +kernel)⟩
theorem lw_p52 : lw_okq (⟨"DoorBenchModel", "byteAt", "()I"⟩, 53) := ⟨⟨by decide +kernel, by decide +kernel⟩, List.mem_of_getElem? (i := 1228) (by decide +kernel), List.mem_of_getElem? (i := 1414) (by decide +kernel), List.mem_of_getElem? (i := 1415) (by decide +kernel)⟩
theorem lw_p53 : lw_okq (⟨"DoorBenchModel", "wrong", "()Z"⟩, 53) := ⟨⟨by decide +kernel, by decide +kernel⟩, List.mem_of_getElem? (i := 1228) (by decide +kernel), List.mem_of_getElem? (i := 1418) (by decide +kernel), List.mem_of_getElem? (i := 1419) (by decide +kernel)⟩
theorem lw_p54 : lw_okq (⟨"DoorBenchModel", "questionOf", "(I)I"⟩, 53) := ⟨⟨by decide +kernel, by decide +kernel⟩, List.mem_of_getElem? (i := 1228) (by decide +kernel), List.mem_of_getElem? (i := 1424) (by decide +kernel), List.mem_of_getElem? (i := 1425) (by decide +kernel)⟩
theorem lw_p55 : lw_okq (⟨"DoorBenchModel", "otherPart", "()V"⟩, 53) := ⟨⟨by decide +kernel, by decide +kernel⟩, List.mem_of_getElem? (i := 1228) (by decide +kernel), List.mem_of_getElem? (i := 1428) (by decide +kernel), List.mem_of_getElem? (i := 1429) (by decide +kernel)⟩
theorem lw_p56 : lw_okq (⟨"DoorBenchModel", "letters", "()I"⟩, 53) := ⟨⟨by decide +kernel, by decide +kernel⟩, List.mem_of_getElem? (i := 1228) (by decide +kernel), List.mem_of_getElem? (i := 1432) (by decide +kernel), List.mem_of_getElem? (i := 1433) (by decide +kernel)⟩
theorem lw_p57 : lw_okq (⟨"DoorBenchModel", "alike", "()Z"⟩, 53) := ⟨⟨by decide +kernel, by decide +kernel⟩, List.mem_of_getElem? (i := 1228) (by decide +kernel), List.mem_of_getElem? (i := 1436) (by decide +kernel), List.mem_of_getElem? (i := 1437) (by decide +kernel)⟩
theorem lw_p58 : lw_okq (⟨"DoorBenchModel", "implied", "()Z"⟩, 53) := ⟨⟨by decide +kernel, by decide +kernel⟩, List.mem_of_getElem? (i := 1228) (by decide +kernel), List.mem_of_getElem? (i := 1440) (by decide +kernel), List.mem_of_getElem? (i := 1441) (by decide +kernel)⟩
theorem lw_p59 : lw_okq (⟨"DoorBenchModel", "either", "()Z"⟩, 53) := ⟨⟨by decide +kernel, by decide +kernel⟩, List.mem_of_getElem? (i := 1228) (by decide +kernel), List.mem_of_getElem? (i := 1444) (by decide +kernel), List.mem_of_getElem? (i := 1445) (by decide +kernel)⟩
theorem lw_p60 : lw_okq (⟨"DoorBenchModel", "both", "()Z"⟩, 53) := ⟨⟨by decide +kernel, by decide +kernel⟩, List.mem_of_getElem? (i := 1228) (by decide +kernel), List.mem_of_getElem? (i := 1448) (by decide +kernel), List.mem_of_getElem? (i := 1449) (by decide +kernel)⟩
theorem lw_p61 : lw_okq (⟨"DoorBenchModel", "one", "()Z"⟩, 53) := ⟨⟨by decide +kernel, by decide +kernel⟩, List.mem_of_getElem? (i := 1228) (by decide +kernel), List.mem_of_getElem? (i := 1452) (by decide +kernel), List.mem_of_getElem? (i := 1453) (by decide +kernel)⟩
theorem lw_p62 : lw_okq (⟨"DoorBenchModel", "opens", "()Z"⟩, 53) := ⟨⟨by decide +kernel, by decide +kernel⟩, List.mem_of_getElem? (i := 1228) (by decide +kernel), List.mem_of_getElem? (i := 1456) (by decide +kernel), List.mem_of_getElem? (i := 1457) (by decide +kernel)⟩
theorem lw_p63 : lw_okq (⟨"DoorBenchModel", "atLeast", "(I)Z"⟩, 53) := ⟨⟨by decide +kernel, by decide +kernel⟩, List.mem_of_getElem? (i := 1228) (by decide +kernel), List.mem_of_getElem? (i := 1462) (by decide +kernel), List.mem_of_getElem? (i := 1463) (by decide +kernel)⟩
def lw_privs_4 : List (MethodName × Nat) := [(⟨"DoorBench", "hasPlaces", "(III)Z"⟩, 13), (⟨"DoorBench", "allJudges", "()I"⟩, 13), (⟨"DoorBenchModel", "firstPart", "()V"⟩, 53), (⟨"DoorBenchModel", "takes", "(I)Z"⟩, 53), (⟨"DoorBenchModel", "byteAt", "()I"⟩, 53), (⟨"DoorBenchModel", "wrong", "()Z"⟩, 53), (⟨"DoorBenchModel", "questionOf", "(I)I"⟩, 53), (⟨"DoorBenchModel", "otherPart", "()V"⟩, 53), (⟨"DoorBenchModel", "letters", "()I"⟩, 53), (⟨"DoorBenchModel", "alike", "()Z"⟩, 53), (⟨"DoorBenchModel", "implied", "()Z"⟩, 53), (⟨"DoorBenchModel", "either", "()Z"⟩, 53), (⟨"DoorBenchModel", "both", "()Z"⟩, 53), (⟨"DoorBenchModel", "one", "()Z"⟩, 53), (⟨"DoorBenchModel", "opens", "()Z"⟩, 53), (⟨"DoorBenchModel", "atLeast", "(I)Z"⟩, 53)]
theorem lw_r4 : ∀ q ∈ lw_privs_4, lw_okq q := List.forall_mem_cons.mpr ⟨lw_p48, List.forall_mem_cons.mpr ⟨lw_p49, List.forall_mem_cons.mpr ⟨lw_p50, List.forall_mem_cons.mpr ⟨lw_p51, List.forall_mem_cons.mpr ⟨lw_p52, List.forall_mem_cons.mpr ⟨lw_p53, List.forall_mem_cons.mpr ⟨lw_p54, List.forall_mem_cons.mpr ⟨lw_p55, List.forall_mem_cons.mpr ⟨lw_p56, List.forall_mem_cons.mpr ⟨lw_p57, List.forall_mem_cons.mpr ⟨lw_p58, List.forall_mem_cons.mpr ⟨lw_p59, List.forall_mem_cons.mpr ⟨lw_p60, List.forall_mem_cons.mpr ⟨lw_p61, List.forall_mem_cons.mpr ⟨lw_p62, List.forall_mem_cons.mpr ⟨lw_p63, fun _ h => absurd h List.not_mem_nil⟩⟩⟩⟩⟩⟩⟩⟩⟩⟩⟩⟩⟩⟩⟩⟩
theorem lw_p64 : lw_okq (⟨"DoorBenchModel", "keeps", "(III)Z"⟩, 53) := ⟨⟨by decide +kernel, by decide +kernel⟩, List.mem_of_getElem? (i := 1228) (by decide +kernel), List.mem_of_getElem? (i := 1466) (by decide +kernel), List.mem_of_getElem? (i := 1467) (by decide +kernel)⟩
theorem lw_p65 : lw_okq (⟨"DoorBenchModel", "smallestPart", "(I)I"⟩, 53) := ⟨⟨by decide +kernel, by decide +kernel⟩, List.mem_of_getElem? (i := 1228) (by decide +kernel), List.mem_of_getElem? (i := 1470) (by decide +kernel), List.mem_of_getElem? (i := 1471) (by decide +kernel)⟩
theorem lw_p66 : lw_okq (⟨"DoorBenchModel", "isAgenda", "(I)Z"⟩, 53) := ⟨⟨by decide +kernel, by decide +kernel⟩, List.mem_of_getElem? (i := 1228) (by decide +kernel), List.mem_of_getElem? (i := 1481) (by decide +kernel), List.mem_of_getElem? (i := 1482) (by decide +kernel)⟩
theorem lw_p67 : lw_okq (⟨"DoorBenchModel", "isSet", "(II)Z"⟩, 53) := ⟨⟨by decide +kernel, by decide +kernel⟩, List.mem_of_getElem? (i := 1228) (by decide +kernel), List.mem_of_getElem? (i := 1493) (by decide +kernel), List.mem_of_getElem? (i := 1494) (by decide +kernel)⟩
theorem lw_p68 : lw_okq (⟨"DoorBenchModel", "areAnswers", "(III)Z"⟩, 53) := ⟨⟨by decide +kernel, by decide +kernel⟩, List.mem_of_getElem? (i := 1228) (by decide +kernel), List.mem_of_getElem? (i := 1501) (by decide +kernel), List.mem_of_getElem? (i := 1502) (by decide +kernel)⟩
theorem lw_p69 : lw_okq (⟨"DoorBenchModel", "canStand", "(III)Z"⟩, 53) := ⟨⟨by decide +kernel, by decide +kernel⟩, List.mem_of_getElem? (i := 1228) (by decide +kernel), List.mem_of_getElem? (i := 1505) (by decide +kernel), List.mem_of_getElem? (i := 1506) (by decide +kernel)⟩
theorem lw_p70 : lw_okq (⟨"DoorBenchModel", "isQuestion", "(II)Z"⟩, 53) := ⟨⟨by decide +kernel, by decide +kernel⟩, List.mem_of_getElem? (i := 1228) (by decide +kernel), List.mem_of_getElem? (i := 1516) (by decide +kernel), List.mem_of_getElem? (i := 1517) (by decide +kernel)⟩
theorem lw_p71 : lw_okq (⟨"DoorBenchModel", "forcedBy", "(IIII)I"⟩, 53) := ⟨⟨by decide +kernel, by decide +kernel⟩, List.mem_of_getElem? (i := 1228) (by decide +kernel), List.mem_of_getElem? (i := 1520) (by decide +kernel), List.mem_of_getElem? (i := 1521) (by decide +kernel)⟩
theorem lw_p72 : lw_okq (⟨"DoorBenchModel", "isJudge", "(II)Z"⟩, 53) := ⟨⟨by decide +kernel, by decide +kernel⟩, List.mem_of_getElem? (i := 1228) (by decide +kernel), List.mem_of_getElem? (i := 1537) (by decide +kernel), List.mem_of_getElem? (i := 1538) (by decide +kernel)⟩
theorem lw_p73 : lw_okq (⟨"DoorBenchModel", "sitDown", "(I)V"⟩, 53) := ⟨⟨by decide +kernel, by decide +kernel⟩, List.mem_of_getElem? (i := 1228) (by decide +kernel), List.mem_of_getElem? (i := 1562) (by decide +kernel), List.mem_of_getElem? (i := 1563) (by decide +kernel)⟩
theorem lw_p74 : lw_okq (⟨"DoorBenchModel", "votesFor", "(II)I"⟩, 53) := ⟨⟨by decide +kernel, by decide +kernel⟩, List.mem_of_getElem? (i := 1228) (by decide +kernel), List.mem_of_getElem? (i := 1566) (by decide +kernel), List.mem_of_getElem? (i := 1567) (by decide +kernel)⟩
theorem lw_p75 : lw_okq (⟨"DoorBenchModel", "farFrom", "(I)I"⟩, 53) := ⟨⟨by decide +kernel, by decide +kernel⟩, List.mem_of_getElem? (i := 1228) (by decide +kernel), List.mem_of_getElem? (i := 1574) (by decide +kernel), List.mem_of_getElem? (i := 1575) (by decide +kernel)⟩
theorem lw_p76 : lw_okq (⟨"DoorBenchModel", "nearestOf", "(II)I"⟩, 53) := ⟨⟨by decide +kernel, by decide +kernel⟩, List.mem_of_getElem? (i := 1228) (by decide +kernel), List.mem_of_getElem? (i := 1582) (by decide +kernel), List.mem_of_getElem? (i := 1583) (by decide +kernel)⟩
theorem lw_p77 : lw_okq (⟨"DoorBenchModel", "isWay", "(I)Z"⟩, 53) := ⟨⟨by decide +kernel, by decide +kernel⟩, List.mem_of_getElem? (i := 1228) (by decide +kernel), List.mem_of_getElem? (i := 1596) (by decide +kernel), List.mem_of_getElem? (i := 1597) (by decide +kernel)⟩
theorem lw_p78 : lw_okq (⟨"DoorBenchModel", "find", "(I)V"⟩, 53) := ⟨⟨by decide +kernel, by decide +kernel⟩, List.mem_of_getElem? (i := 1228) (by decide +kernel), List.mem_of_getElem? (i := 1604) (by decide +kernel), List.mem_of_getElem? (i := 1605) (by decide +kernel)⟩
theorem lw_p79 : lw_okq (⟨"DoorBenchModel", "all", "()I"⟩, 53) := ⟨⟨by decide +kernel, by decide +kernel⟩, List.mem_of_getElem? (i := 1228) (by decide +kernel), List.mem_of_getElem? (i := 1608) (by decide +kernel), List.mem_of_getElem? (i := 1609) (by decide +kernel)⟩
def lw_privs_5 : List (MethodName × Nat) := [(⟨"DoorBenchModel", "keeps", "(III)Z"⟩, 53), (⟨"DoorBenchModel", "smallestPart", "(I)I"⟩, 53), (⟨"DoorBenchModel", "isAgenda", "(I)Z"⟩, 53), (⟨"DoorBenchModel", "isSet", "(II)Z"⟩, 53), (⟨"DoorBenchModel", "areAnswers", "(III)Z"⟩, 53), (⟨"DoorBenchModel", "canStand", "(III)Z"⟩, 53), (⟨"DoorBenchModel", "isQuestion", "(II)Z"⟩, 53), (⟨"DoorBenchModel", "forcedBy", "(IIII)I"⟩, 53), (⟨"DoorBenchModel", "isJudge", "(II)Z"⟩, 53), (⟨"DoorBenchModel", "sitDown", "(I)V"⟩, 53), (⟨"DoorBenchModel", "votesFor", "(II)I"⟩, 53), (⟨"DoorBenchModel", "farFrom", "(I)I"⟩, 53), (⟨"DoorBenchModel", "nearestOf", "(II)I"⟩, 53), (⟨"DoorBenchModel", "isWay", "(I)Z"⟩, 53), (⟨"DoorBenchModel", "find", "(I)V"⟩, 53), (⟨"DoorBenchModel", "all", "()I"⟩, 53)]
theorem lw_r5 : ∀ q ∈ lw_privs_5, lw_okq q := List.forall_mem_cons.mpr ⟨lw_p64, List.forall_mem_cons.mpr ⟨lw_p65, List.forall_mem_cons.mpr ⟨lw_p66, List.forall_mem_cons.mpr ⟨lw_p67, List.forall_mem_cons.mpr ⟨lw_p68, List.forall_mem_cons.mpr ⟨lw_p69, List.forall_mem_cons.mpr ⟨lw_p70, List.forall_mem_cons.mpr ⟨lw_p71, List.forall_mem_cons.mpr ⟨lw_p72, List.forall_mem_cons.mpr ⟨lw_p73, List.forall_mem_cons.mpr ⟨lw_p74, List.forall_mem_cons.mpr ⟨lw_p75, List.forall_mem_cons.mpr ⟨lw_p76, List.forall_mem_cons.mpr ⟨lw_p77, List.forall_mem_cons.mpr ⟨lw_p78, List.forall_mem_cons.mpr ⟨lw_p79, fun _ h => absurd h List.not_mem_nil⟩⟩⟩⟩⟩⟩⟩⟩⟩⟩⟩⟩⟩⟩⟩⟩
theorem lw_p80 : lw_okq (⟨"DoorBenchModel", "byHeads", "(I)V"⟩, 53) := ⟨⟨by decide +kernel, by decide +kernel⟩, List.mem_of_getElem? (i := 1228) (by decide +kernel), List.mem_of_getElem? (i := 1612) (by decide +kernel), List.mem_of_getElem? (i := 1613) (by decide +kernel)⟩
theorem lw_p81 : lw_okq (⟨"DoorBenchModel", "heads", "(I)I"⟩, 53) := ⟨⟨by decide +kernel, by decide +kernel⟩, List.mem_of_getElem? (i := 1228) (by decide +kernel), List.mem_of_getElem? (i := 1616) (by decide +kernel), List.mem_of_getElem? (i := 1617) (by decide +kernel)⟩
theorem lw_p82 : lw_okq (⟨"DoorBenchModel", "answer", "(II)V"⟩, 53) := ⟨⟨by decide +kernel, by decide +kernel⟩, List.mem_of_getElem? (i := 1228) (by decide +kernel), List.mem_of_getElem? (i := 1620) (by decide +kernel), List.mem_of_getElem? (i := 1621) (by decide +kernel)⟩
theorem lw_p83 : lw_okq (⟨"DoorBenchModel", "byPremises", "()V"⟩, 53) := ⟨⟨by decide +kernel, by decide +kernel⟩, List.mem_of_getElem? (i := 1228) (by decide +kernel), List.mem_of_getElem? (i := 1624) (by decide +kernel), List.mem_of_getElem? (i := 1625) (by decide +kernel)⟩
theorem lw_p84 : lw_okq (⟨"DoorBenchModel", "byEnds", "()V"⟩, 53) := ⟨⟨by decide +kernel, by decide +kernel⟩, List.mem_of_getElem? (i := 1228) (by decide +kernel), List.mem_of_getElem? (i := 1628) (by decide +kernel), List.mem_of_getElem? (i := 1629) (by decide +kernel)⟩
theorem lw_p85 : lw_okq (⟨"DoorBenchModel", "byTurns", "(I)V"⟩, 53) := ⟨⟨by decide +kernel, by decide +kernel⟩, List.mem_of_getElem? (i := 1228) (by decide +kernel), List.mem_of_getElem? (i := 1632) (by decide +kernel), List.mem_of_getElem? (i := 1633) (by decide +kernel)⟩
theorem lw_p86 : lw_okq (⟨"DoorBenchModel", "byLeader", "(I)V"⟩, 53) := ⟨⟨by decide +kernel, by decide +kernel⟩, List.mem_of_getElem? (i := 1228) (by decide +kernel), List.mem_of_getElem? (i := 1636) (by decide +kernel), List.mem_of_getElem? (i := 1637) (by decide +kernel)⟩
theorem lw_p87 : lw_okq (⟨"DoorBenchModel", "brokenBy", "()I"⟩, 53) := ⟨⟨by decide +kernel, by decide +kernel⟩, List.mem_of_getElem? (i := 1228) (by decide +kernel), List.mem_of_getElem? (i := 1640) (by decide +kernel), List.mem_of_getElem? (i := 1641) (by decide +kernel)⟩
theorem lw_p88 : lw_okq (⟨"DoorBenchModel", "isUnlawful", "()Z"⟩, 53) := ⟨⟨by decide +kernel, by decide +kernel⟩, List.mem_of_getElem? (i := 1228) (by decide +kernel), List.mem_of_getElem? (i := 1644) (by decide +kernel), List.mem_of_getElem? (i := 1645) (by decide +kernel)⟩
theorem lw_p89 : lw_okq (⟨"DoorBenchModel", "noBenches", "(II)I"⟩, 53) := ⟨⟨by decide +kernel, by decide +kernel⟩, List.mem_of_getElem? (i := 1228) (by decide +kernel), List.mem_of_getElem? (i := 1652) (by decide +kernel), List.mem_of_getElem? (i := 1653) (by decide +kernel)⟩
theorem lw_p90 : lw_okq (⟨"DoorBenchModel", "begin", "(II)V"⟩, 53) := ⟨⟨by decide +kernel, by decide +kernel⟩, List.mem_of_getElem? (i := 1228) (by decide +kernel), List.mem_of_getElem? (i := 1656) (by decide +kernel), List.mem_of_getElem? (i := 1657) (by decide +kernel)⟩
theorem lw_p91 : lw_okq (⟨"DoorBenchModel", "seatAll", "()V"⟩, 53) := ⟨⟨by decide +kernel, by decide +kernel⟩, List.mem_of_getElem? (i := 1228) (by decide +kernel), List.mem_of_getElem? (i := 1660) (by decide +kernel), List.mem_of_getElem? (i := 1661) (by decide +kernel)⟩
theorem lw_p92 : lw_okq (⟨"DoorBenchModel", "seat", "(II)V"⟩, 53) := ⟨⟨by decide +kernel, by decide +kernel⟩, List.mem_of_getElem? (i := 1228) (by decide +kernel), List.mem_of_getElem? (i := 1664) (by decide +kernel), List.mem_of_getElem? (i := 1665) (by decide +kernel)⟩
theorem lw_p93 : lw_okq (⟨"DoorBenchModel", "goOn", "(Z)Z"⟩, 53) := ⟨⟨by decide +kernel, by decide +kernel⟩, List.mem_of_getElem? (i := 1228) (by decide +kernel), List.mem_of_getElem? (i := 1668) (by decide +kernel), List.mem_of_getElem? (i := 1669) (by decide +kernel)⟩
theorem lw_p94 : lw_okq (⟨"DoorBenchModel", "code", "()I"⟩, 53) := ⟨⟨by decide +kernel, by decide +kernel⟩, List.mem_of_getElem? (i := 1228) (by decide +kernel), List.mem_of_getElem? (i := 1676) (by decide +kernel), List.mem_of_getElem? (i := 1677) (by decide +kernel)⟩
theorem lw_p95 : lw_okq (⟨"DoorBenchModel", "twistOf", "(II)I"⟩, 53) := ⟨⟨by decide +kernel, by decide +kernel⟩, List.mem_of_getElem? (i := 1228) (by decide +kernel), List.mem_of_getElem? (i := 1692) (by decide +kernel), List.mem_of_getElem? (i := 1693) (by decide +kernel)⟩
def lw_privs_6 : List (MethodName × Nat) := [(⟨"DoorBenchModel", "byHeads", "(I)V"⟩, 53), (⟨"DoorBenchModel", "heads", "(I)I"⟩, 53), (⟨"DoorBenchModel", "answer", "(II)V"⟩, 53), (⟨"DoorBenchModel", "byPremises", "()V"⟩, 53), (⟨"DoorBenchModel", "byEnds", "()V"⟩, 53), (⟨"DoorBenchModel", "byTurns", "(I)V"⟩, 53), (⟨"DoorBenchModel", "byLeader", "(I)V"⟩, 53), (⟨"DoorBenchModel", "brokenBy", "()I"⟩, 53), (⟨"DoorBenchModel", "isUnlawful", "()Z"⟩, 53), (⟨"DoorBenchModel", "noBenches", "(II)I"⟩, 53), (⟨"DoorBenchModel", "begin", "(II)V"⟩, 53), (⟨"DoorBenchModel", "seatAll", "()V"⟩, 53), (⟨"DoorBenchModel", "seat", "(II)V"⟩, 53), (⟨"DoorBenchModel", "goOn", "(Z)Z"⟩, 53), (⟨"DoorBenchModel", "code", "()I"⟩, 53), (⟨"DoorBenchModel", "twistOf", "(II)I"⟩, 53)]
theorem lw_r6 : ∀ q ∈ lw_privs_6, lw_okq q := List.forall_mem_cons.mpr ⟨lw_p80, List.forall_mem_cons.mpr ⟨lw_p81, List.forall_mem_cons.mpr ⟨lw_p82, List.forall_mem_cons.mpr ⟨lw_p83, List.forall_mem_cons.mpr ⟨lw_p84, List.forall_mem_cons.mpr ⟨lw_p85, List.forall_mem_cons.mpr ⟨lw_p86, List.forall_mem_cons.mpr ⟨lw_p87, List.forall_mem_cons.mpr ⟨lw_p88, List.forall_mem_cons.mpr ⟨lw_p89, List.forall_mem_cons.mpr ⟨lw_p90, List.forall_mem_cons.mpr ⟨lw_p91, List.forall_mem_cons.mpr ⟨lw_p92, List.forall_mem_cons.mpr ⟨lw_p93, List.forall_mem_cons.mpr ⟨lw_p94, List.forall_mem_cons.mpr ⟨lw_p95, fun _ h => absurd h List.not_mem_nil⟩⟩⟩⟩⟩⟩⟩⟩⟩⟩⟩⟩⟩⟩⟩⟩
theorem lw_p96 : lw_okq (⟨"DoorBenchModel", "apart", "(I)I"⟩, 53) := ⟨⟨by decide +kernel, by decide +kernel⟩, List.mem_of_getElem? (i := 1228) (by decide +kernel), List.mem_of_getElem? (i := 1696) (by decide +kernel), List.mem_of_getElem? (i := 1697) (by decide +kernel)⟩
theorem lw_p97 : lw_okq (⟨"DoorBenchModel", "breachOf", "(IIII)I"⟩, 53) := ⟨⟨by decide +kernel, by decide +kernel⟩, List.mem_of_getElem? (i := 1228) (by decide +kernel), List.mem_of_getElem? (i := 1709) (by decide +kernel), List.mem_of_getElem? (i := 1710) (by decide +kernel)⟩
theorem lw_p98 : lw_okq (⟨"DoorBenchModel", "findRows", "(III)V"⟩, 53) := ⟨⟨by decide +kernel, by decide +kernel⟩, List.mem_of_getElem? (i := 1228) (by decide +kernel), List.mem_of_getElem? (i := 1713) (by decide +kernel), List.mem_of_getElem? (i := 1714) (by decide +kernel)⟩
theorem lw_p99 : lw_okq (⟨"DoorBenchModel", "setOf", "(II)I"⟩, 53) := ⟨⟨by decide +kernel, by decide +kernel⟩, List.mem_of_getElem? (i := 1228) (by decide +kernel), List.mem_of_getElem? (i := 1717) (by decide +kernel), List.mem_of_getElem? (i := 1718) (by decide +kernel)⟩
theorem lw_p100 : lw_okq (⟨"DoorBenchModel", "sortedRow", "(II)I"⟩, 53) := ⟨⟨by decide +kernel, by decide +kernel⟩, List.mem_of_getElem? (i := 1228) (by decide +kernel), List.mem_of_getElem? (i := 1721) (by decide +kernel), List.mem_of_getElem? (i := 1722) (by decide +kernel)⟩
theorem lw_p101 : lw_okq (⟨"DoorBenchModel", "isOwn", "(II)Z"⟩, 53) := ⟨⟨by decide +kernel, by decide +kernel⟩, List.mem_of_getElem? (i := 1228) (by decide +kernel), List.mem_of_getElem? (i := 1725) (by decide +kernel), List.mem_of_getElem? (i := 1726) (by decide +kernel)⟩
theorem lw_p102 : lw_okq (⟨"DoorBenchModel", "isMinded", "(II)Z"⟩, 53) := ⟨⟨by decide +kernel, by decide +kernel⟩, List.mem_of_getElem? (i := 1228) (by decide +kernel), List.mem_of_getElem? (i := 1729) (by decide +kernel), List.mem_of_getElem? (i := 1730) (by decide +kernel)⟩
theorem lw_p103 : lw_okq (⟨"DoorBenchModel", "mends", "(III)Z"⟩, 53) := ⟨⟨by decide +kernel, by decide +kernel⟩, List.mem_of_getElem? (i := 1228) (by decide +kernel), List.mem_of_getElem? (i := 1742) (by decide +kernel), List.mem_of_getElem? (i := 1743) (by decide +kernel)⟩
theorem lw_p104 : lw_okq (⟨"DoorBenchModel", "tryOrders", "(IIII)V"⟩, 53) := ⟨⟨by decide +kernel, by decide +kernel⟩, List.mem_of_getElem? (i := 1228) (by decide +kernel), List.mem_of_getElem? (i := 1750) (by decide +kernel), List.mem_of_getElem? (i := 1751) (by decide +kernel)⟩
theorem lw_p105 : lw_okq (⟨"DoorBenchModel", "counts", "(II)I"⟩, 53) := ⟨⟨by decide +kernel, by decide +kernel⟩, List.mem_of_getElem? (i := 1228) (by decide +kernel), List.mem_of_getElem? (i := 1758) (by decide +kernel), List.mem_of_getElem? (i := 1759) (by decide +kernel)⟩
theorem lw_p106 : lw_okq (⟨"DoorBenchModel", "ranBody", "(I)V"⟩, 53) := ⟨⟨by decide +kernel, by decide +kernel⟩, List.mem_of_getElem? (i := 1228) (by decide +kernel), List.mem_of_getElem? (i := 1762) (by decide +kernel), List.mem_of_getElem? (i := 1763) (by decide +kernel)⟩
theorem lw_p107 : lw_okq (⟨"DoorBenchModel", "weighs", "(II)I"⟩, 53) := ⟨⟨by decide +kernel, by decide +kernel⟩, List.mem_of_getElem? (i := 1228) (by decide +kernel), List.mem_of_getElem? (i := 1769) (by decide +kernel), List.mem_of_getElem? (i := 1770) (by decide +kernel)⟩
theorem lw_p108 : lw_okq (⟨"DoorBenchModel", "binds", "(II)I"⟩, 53) := ⟨⟨by decide +kernel, by decide +kernel⟩, List.mem_of_getElem? (i := 1228) (by decide +kernel), List.mem_of_getElem? (i := 1773) (by decide +kernel), List.mem_of_getElem? (i := 1774) (by decide +kernel)⟩
theorem lw_p109 : lw_okq (⟨"DoorBenchModel", "tells", "(II)I"⟩, 53) := ⟨⟨by decide +kernel, by decide +kernel⟩, List.mem_of_getElem? (i := 1228) (by decide +kernel), List.mem_of_getElem? (i := 1777) (by decide +kernel), List.mem_of_getElem? (i := 1778) (by decide +kernel)⟩
theorem lw_p110 : lw_okq (⟨"DoorBenchModel", "refusal", "(II)I"⟩, 53) := ⟨⟨by decide +kernel, by decide +kernel⟩, List.mem_of_getElem? (i := 1228) (by decide +kernel), List.mem_of_getElem? (i := 1797) (by decide +kernel), List.mem_of_getElem? (i := 1798) (by decide +kernel)⟩
def lw_privs_7 : List (MethodName × Nat) := [(⟨"DoorBenchModel", "apart", "(I)I"⟩, 53), (⟨"DoorBenchModel", "breachOf", "(IIII)I"⟩, 53), (⟨"DoorBenchModel", "findRows", "(III)V"⟩, 53), (⟨"DoorBenchModel", "setOf", "(II)I"⟩, 53), (⟨"DoorBenchModel", "sortedRow", "(II)I"⟩, 53), (⟨"DoorBenchModel", "isOwn", "(II)Z"⟩, 53), (⟨"DoorBenchModel", "isMinded", "(II)Z"⟩, 53), (⟨"DoorBenchModel", "mends", "(III)Z"⟩, 53), (⟨"DoorBenchModel", "tryOrders", "(IIII)V"⟩, 53), (⟨"DoorBenchModel", "counts", "(II)I"⟩, 53), (⟨"DoorBenchModel", "ranBody", "(I)V"⟩, 53), (⟨"DoorBenchModel", "weighs", "(II)I"⟩, 53), (⟨"DoorBenchModel", "binds", "(II)I"⟩, 53), (⟨"DoorBenchModel", "tells", "(II)I"⟩, 53), (⟨"DoorBenchModel", "refusal", "(II)I"⟩, 53)]
theorem lw_r7 : ∀ q ∈ lw_privs_7, lw_okq q := List.forall_mem_cons.mpr ⟨lw_p96, List.forall_mem_cons.mpr ⟨lw_p97, List.forall_mem_cons.mpr ⟨lw_p98, List.forall_mem_cons.mpr ⟨lw_p99, List.forall_mem_cons.mpr ⟨lw_p100, List.forall_mem_cons.mpr ⟨lw_p101, List.forall_mem_cons.mpr ⟨lw_p102, List.forall_mem_cons.mpr ⟨lw_p103, List.forall_mem_cons.mpr ⟨lw_p104, List.forall_mem_cons.mpr ⟨lw_p105, List.forall_mem_cons.mpr ⟨lw_p106, List.forall_mem_cons.mpr ⟨lw_p107, List.forall_mem_cons.mpr ⟨lw_p108, List.forall_mem_cons.mpr ⟨lw_p109, List.forall_mem_cons.mpr ⟨lw_p110, fun _ h => absurd h List.not_mem_nil⟩⟩⟩⟩⟩⟩⟩⟩⟩⟩⟩⟩⟩⟩⟩
def lw_privs : List (MethodName × Nat) := lw_privs_1 ++ (lw_privs_2 ++ (lw_privs_3 ++ (lw_privs_4 ++ (lw_privs_5 ++ (lw_privs_6 ++ (lw_privs_7))))))
def lw_tbl : List Cond := k2_sels lw_privs ++ tables_1
theorem lw_privs_ok : ∀ q ∈ lw_privs, lw_okq q := by
  show ∀ q ∈ lw_privs_1 ++ (lw_privs_2 ++ (lw_privs_3 ++ (lw_privs_4 ++ (lw_privs_5 ++ (lw_privs_6 ++ (lw_privs_7)))))), lw_okq q
  exact List.forall_mem_append.mpr ⟨lw_r1, List.forall_mem_append.mpr ⟨lw_r2, List.forall_mem_append.mpr ⟨lw_r3, List.forall_mem_append.mpr ⟨lw_r4, List.forall_mem_append.mpr ⟨lw_r5, List.forall_mem_append.mpr ⟨lw_r6, lw_r7⟩⟩⟩⟩⟩⟩
-- ===== end of PART A; then your names; then what follows =====
end
section
/-! printed by wip/gen/data.py: the classes, their fields, the methods, the call sites -/
def z_T0 : u_T := fun k => match k with
  | 0 => ("DoorBench", "tape", "LDoorBench$Tape;", true)
  | 1 => ("DoorBench", "seated", "[LDoorBench$Bench;", true)
  | 2 => ("DoorBench", "trials", "[LDoorBench$Bench;", true)
  | 3 => ("DoorBench", "agendas", "I", false)
  | 4 => ("DoorBench", "bodies", "[LDoorBench$Way;", true)
  | 5 => ("DoorBench", "ways", "I", false)
  | 6 => ("DoorBench", "ran", "[I", true)
  | 7 => ("DoorBench", "sorts", "[I", true)
  | 8 => ("DoorBench", "sizes", "[I", true)
  | 9 => ("DoorBench", "elements", "[J", true)
  | 10 => ("DoorBench", "kept", "[LDoorBench$Way;", true)
  | 11 => ("DoorBench", "outcomes", "[I", true)
  | _ => ("DoorBench", "remembered", "[I", false)
def z_Y0 : Nat → FieldType := fun k => match k with
  | 0 => .object "DoorBench$Tape"
  | 1 => .array (.object "DoorBench$Bench")
  | 2 => .array (.object "DoorBench$Bench")
  | 3 => .int
  | 4 => .array (.object "DoorBench$Way")
  | 5 => .int
  | 6 => .array .int
  | 7 => .array .int
  | 8 => .array .int
  | 9 => .array .long
  | 10 => .array (.object "DoorBench$Way")
  | 11 => .array .int
  | _ => .array .int
def z_T1 : u_T := fun k => match k with
  | 0 => ("DoorBench$Tape", "bytes", "[I", true)
  | 1 => ("DoorBench$Tape", "length", "I", false)
  | 2 => ("DoorBench$Tape", "at", "I", false)
  | 3 => ("DoorBench$Tape", "fault", "I", false)
  | 4 => ("DoorBench$Tape", "questions", "I", false)
  | 5 => ("DoorBench$Tape", "premises", "I", false)
  | 6 => ("DoorBench$Tape", "ends", "I", false)
  | 7 => ("DoorBench$Tape", "ties", "I", false)
  | 8 => ("DoorBench$Tape", "numbers", "[I", true)
  | 9 => ("DoorBench$Tape", "tieStarts", "[I", true)
  | 10 => ("DoorBench$Tape", "block", "I", false)
  | _ => ("DoorBench$Tape", "reached", "[J", true)
def z_Y1 : Nat → FieldType := fun k => match k with
  | 0 => .array .int
  | 1 => .int
  | 2 => .int
  | 3 => .int
  | 4 => .int
  | 5 => .int
  | 6 => .int
  | 7 => .int
  | 8 => .array .int
  | 9 => .array .int
  | 10 => .int
  | _ => .array .long
def z_T2 : u_T := fun k => match k with
  | 0 => ("DoorBench$Agenda", "questions", "I", true)
  | 1 => ("DoorBench$Agenda", "all", "I", true)
  | 2 => ("DoorBench$Agenda", "premises", "I", true)
  | 3 => ("DoorBench$Agenda", "ends", "I", true)
  | 4 => ("DoorBench$Agenda", "ties", "I", true)
  | 5 => ("DoorBench$Agenda", "sets", "[I", true)
  | 6 => ("DoorBench$Agenda", "blocks", "I", true)
  | 7 => ("DoorBench$Agenda", "whole", "J", true)
  | 8 => ("DoorBench$Agenda", "keeping", "[J", true)
  | 9 => ("DoorBench$Agenda", "lawfulBits", "[J", true)
  | 10 => ("DoorBench$Agenda", "spans", "I", true)
  | 11 => ("DoorBench$Agenda", "yesOnes", "[J", true)
  | 12 => ("DoorBench$Agenda", "fewBits", "[J", true)
  | _ => ("DoorBench$Agenda", "few", "[I", true)
def z_Y2 : Nat → FieldType := fun k => match k with
  | 0 => .int
  | 1 => .int
  | 2 => .int
  | 3 => .int
  | 4 => .int
  | 5 => .array .int
  | 6 => .int
  | 7 => .long
  | 8 => .array .long
  | 9 => .array .long
  | 10 => .int
  | 11 => .array .long
  | 12 => .array .long
  | _ => .array .int
def z_T3 : u_T := fun k => match k with
  | 0 => ("DoorBench$Bench", "agenda", "LDoorBench$Agenda;", true)
  | 1 => ("DoorBench$Bench", "weights", "[I", true)
  | 2 => ("DoorBench$Bench", "yes", "[I", true)
  | 3 => ("DoorBench$Bench", "no", "[I", true)
  | 4 => ("DoorBench$Bench", "judges", "I", false)
  | 5 => ("DoorBench$Bench", "lean", "[I", true)
  | 6 => ("DoorBench$Bench", "lowLean", "[I", true)
  | 7 => ("DoorBench$Bench", "highLean", "[I", true)
  | 8 => ("DoorBench$Bench", "order", "[I", true)
  | 9 => ("DoorBench$Bench", "left", "[J", true)
  | 10 => ("DoorBench$Bench", "numbers", "[I", true)
  | _ => ("DoorBench$Bench", "before", "[I", true)
def z_Y3 : Nat → FieldType := fun k => match k with
  | 0 => .object "DoorBench$Agenda"
  | 1 => .array .int
  | 2 => .array .int
  | 3 => .array .int
  | 4 => .int
  | 5 => .array .int
  | 6 => .array .int
  | 7 => .array .int
  | 8 => .array .int
  | 9 => .array .long
  | 10 => .array .int
  | _ => .array .int
def z_T4 : u_T := fun k => match k with
  | 0 => ("DoorBench$Way", "kind", "I", true)
  | 1 => ("DoorBench$Way", "shift", "I", true)
  | 2 => ("DoorBench$Way", "judge", "I", true)
  | 3 => ("DoorBench$Way", "number", "I", true)
  | _ => ("DoorBench$Way", "ran", "[I", true)
def z_Y4 : Nat → FieldType := fun k => match k with
  | 0 => .int
  | 1 => .int
  | 2 => .int
  | 3 => .int
  | _ => .array .int
def z_T5 : u_T := fun k => match k with
  | 0 => ("DoorBench$Way", "kind", "I", true)
  | 1 => ("DoorBench$Way", "shift", "I", true)
  | 2 => ("DoorBench$Way", "judge", "I", true)
  | 3 => ("DoorBench$Way", "number", "I", true)
  | _ => ("DoorBench$Way", "ran", "[I", true)
def z_Y5 : Nat → FieldType := fun k => match k with
  | 0 => .int
  | 1 => .int
  | 2 => .int
  | 3 => .int
  | _ => .array .int
def z_T6 : u_T := fun k => match k with
  | 0 => ("DoorBench$Way", "kind", "I", true)
  | 1 => ("DoorBench$Way", "shift", "I", true)
  | 2 => ("DoorBench$Way", "judge", "I", true)
  | 3 => ("DoorBench$Way", "number", "I", true)
  | _ => ("DoorBench$Way", "ran", "[I", true)
def z_Y6 : Nat → FieldType := fun k => match k with
  | 0 => .int
  | 1 => .int
  | 2 => .int
  | 3 => .int
  | _ => .array .int
def z_T7 : u_T := fun k => match k with
  | 0 => ("DoorBench$Way", "kind", "I", true)
  | 1 => ("DoorBench$Way", "shift", "I", true)
  | 2 => ("DoorBench$Way", "judge", "I", true)
  | 3 => ("DoorBench$Way", "number", "I", true)
  | _ => ("DoorBench$Way", "ran", "[I", true)
def z_Y7 : Nat → FieldType := fun k => match k with
  | 0 => .int
  | 1 => .int
  | 2 => .int
  | 3 => .int
  | _ => .array .int
def z_T8 : u_T := fun k => match k with
  | 0 => ("DoorBench$Way", "kind", "I", true)
  | 1 => ("DoorBench$Way", "shift", "I", true)
  | 2 => ("DoorBench$Way", "judge", "I", true)
  | 3 => ("DoorBench$Way", "number", "I", true)
  | _ => ("DoorBench$Way", "ran", "[I", true)
def z_Y8 : Nat → FieldType := fun k => match k with
  | 0 => .int
  | 1 => .int
  | 2 => .int
  | 3 => .int
  | _ => .array .int
def z_T9 : u_T := fun k => match k with
  | 0 => ("DoorBench$Way", "kind", "I", true)
  | 1 => ("DoorBench$Way", "shift", "I", true)
  | 2 => ("DoorBench$Way", "judge", "I", true)
  | 3 => ("DoorBench$Way", "number", "I", true)
  | _ => ("DoorBench$Way", "ran", "[I", true)
def z_Y9 : Nat → FieldType := fun k => match k with
  | 0 => .int
  | 1 => .int
  | 2 => .int
  | 3 => .int
  | _ => .array .int
def z_T10 : u_T := fun k => match k with
  | 0 => ("DoorBench$Way", "kind", "I", true)
  | 1 => ("DoorBench$Way", "shift", "I", true)
  | 2 => ("DoorBench$Way", "judge", "I", true)
  | 3 => ("DoorBench$Way", "number", "I", true)
  | _ => ("DoorBench$Way", "ran", "[I", true)
def z_Y10 : Nat → FieldType := fun k => match k with
  | 0 => .int
  | 1 => .int
  | 2 => .int
  | 3 => .int
  | _ => .array .int
def z_T11 : u_T := fun k => match k with
  | 0 => ("DoorBench$Way", "kind", "I", true)
  | 1 => ("DoorBench$Way", "shift", "I", true)
  | 2 => ("DoorBench$Way", "judge", "I", true)
  | 3 => ("DoorBench$Way", "number", "I", true)
  | _ => ("DoorBench$Way", "ran", "[I", true)
def z_Y11 : Nat → FieldType := fun k => match k with
  | 0 => .int
  | 1 => .int
  | 2 => .int
  | 3 => .int
  | _ => .array .int
def z_T12 : u_T := fun k => match k with
  | 0 => ("DoorBenchModel", "tape", "[I", true)
  | 1 => ("DoorBenchModel", "tapeMany", "I", false)
  | 2 => ("DoorBenchModel", "text", "[I", true)
  | 3 => ("DoorBenchModel", "textMany", "[I", true)
  | 4 => ("DoorBenchModel", "letter", "[I", true)
  | 5 => ("DoorBenchModel", "questions", "[I", true)
  | 6 => ("DoorBenchModel", "ties", "[I", true)
  | 7 => ("DoorBenchModel", "tieAt", "[I", true)
  | 8 => ("DoorBenchModel", "premises", "[I", true)
  | 9 => ("DoorBenchModel", "endsOf", "[I", true)
  | 10 => ("DoorBenchModel", "breaks", "[I", true)
  | 11 => ("DoorBenchModel", "lawfulSets", "[I", true)
  | 12 => ("DoorBenchModel", "lawfulMany", "[I", true)
  | 13 => ("DoorBenchModel", "agendas", "I", false)
  | 14 => ("DoorBenchModel", "weight", "[I", true)
  | 15 => ("DoorBenchModel", "yesOf", "[I", true)
  | 16 => ("DoorBenchModel", "noOf", "[I", true)
  | 17 => ("DoorBenchModel", "judges", "[I", true)
  | 18 => ("DoorBenchModel", "kind", "[I", true)
  | 19 => ("DoorBenchModel", "shift", "[I", true)
  | 20 => ("DoorBenchModel", "chair", "[I", true)
  | 21 => ("DoorBenchModel", "ways", "I", false)
  | 22 => ("DoorBenchModel", "reads", "I", false)
  | 23 => ("DoorBenchModel", "isTape", "Z", false)
  | 24 => ("DoorBenchModel", "at", "I", false)
  | 25 => ("DoorBenchModel", "ends", "I", false)
  | 26 => ("DoorBenchModel", "fault", "I", false)
  | 27 => ("DoorBenchModel", "opened", "I", false)
  | 28 => ("DoorBenchModel", "set", "I", false)
  | 29 => ("DoorBenchModel", "bench", "I", false)
  | 30 => ("DoorBenchModel", "sits", "I", false)
  | 31 => ("DoorBenchModel", "sitsWeight", "[I", true)
  | 32 => ("DoorBenchModel", "sitsYes", "[I", true)
  | 33 => ("DoorBenchModel", "sitsNo", "[I", true)
  | 34 => ("DoorBenchModel", "yes", "I", false)
  | 35 => ("DoorBenchModel", "no", "I", false)
  | 36 => ("DoorBenchModel", "order", "[I", true)
  | 37 => ("DoorBenchModel", "numbers", "[I", true)
  | 38 => ("DoorBenchModel", "rowYes", "[I", true)
  | 39 => ("DoorBenchModel", "rowNo", "[I", true)
  | 40 => ("DoorBenchModel", "rowNumbers", "[I", true)
  | 41 => ("DoorBenchModel", "rowMany", "I", false)
  | 42 => ("DoorBenchModel", "mendSets", "[I", true)
  | 43 => ("DoorBenchModel", "mendMany", "I", false)
  | 44 => ("DoorBenchModel", "ordersMany", "I", false)
  | 45 => ("DoorBenchModel", "firstOrder", "I", false)
  | 46 => ("DoorBenchModel", "trace", "[I", true)
  | 47 => ("DoorBenchModel", "ran", "I", false)
  | 48 => ("DoorBenchModel", "acting", "I", false)
  | 49 => ("DoorBenchModel", "shelf", "[I", true)
  | 50 => ("DoorBenchModel", "many", "[I", true)
  | 51 => ("DoorBenchModel", "items", "[J", true)
  | _ => ("DoorBenchModel", "carried", "[J", true)
def z_Y12 : Nat → FieldType := fun k => match k with
  | 0 => .array .int
  | 1 => .int
  | 2 => .array .int
  | 3 => .array .int
  | 4 => .array .int
  | 5 => .array .int
  | 6 => .array .int
  | 7 => .array .int
  | 8 => .array .int
  | 9 => .array .int
  | 10 => .array .int
  | 11 => .array .int
  | 12 => .array .int
  | 13 => .int
  | 14 => .array .int
  | 15 => .array .int
  | 16 => .array .int
  | 17 => .array .int
  | 18 => .array .int
  | 19 => .array .int
  | 20 => .array .int
  | 21 => .int
  | 22 => .int
  | 23 => .boolean
  | 24 => .int
  | 25 => .int
  | 26 => .int
  | 27 => .int
  | 28 => .int
  | 29 => .int
  | 30 => .int
  | 31 => .array .int
  | 32 => .array .int
  | 33 => .array .int
  | 34 => .int
  | 35 => .int
  | 36 => .array .int
  | 37 => .array .int
  | 38 => .array .int
  | 39 => .array .int
  | 40 => .array .int
  | 41 => .int
  | 42 => .array .int
  | 43 => .int
  | 44 => .int
  | 45 => .int
  | 46 => .array .int
  | 47 => .int
  | 48 => .int
  | 49 => .array .int
  | 50 => .array .int
  | 51 => .array .long
  | _ => .array .long
abbrev z_cl : List vw_C := [("DoorBench", z_T0, 13), ("DoorBench$Tape", z_T1, 12), ("DoorBench$Agenda", z_T2, 14), ("DoorBench$Bench", z_T3, 12), ("DoorBench$Way", z_T4, 5), ("DoorBench$Heads", z_T5, 5), ("DoorBench$Premises", z_T6, 5), ("DoorBench$Ends", z_T7, 5), ("DoorBench$Near", z_T8, 5), ("DoorBench$Turns", z_T9, 5), ("DoorBench$Chair", z_T10, 5), ("DoorBench$Leader", z_T11, 5), ("DoorBenchModel", z_T12, 53)]
def z_tyl : List (Nat → FieldType) := [z_Y0, z_Y1, z_Y2, z_Y3, z_Y4, z_Y5, z_Y6, z_Y7, z_Y8, z_Y9, z_Y10, z_Y11, z_Y12]
def z_fty (ci k : Nat) : FieldType := ((z_tyl[ci]?).getD (fun _ => .int)) k
def z_cnl : List String := ["DoorBench", "DoorBench$Tape", "DoorBench$Agenda", "DoorBench$Bench", "DoorBench$Way", "DoorBench$Heads", "DoorBench$Premises", "DoorBench$Ends", "DoorBench$Near", "DoorBench$Turns", "DoorBench$Chair", "DoorBench$Leader", "DoorBenchModel", "DoorBenchLaw", "java/util/Arrays", "java/lang/Integer", "java/lang/Long", "java/lang/Math"]
def z_cn (c : Nat) : String := (z_cnl[c]?).getD ""
/-- the methods: name, bytes, locals, what it returns, its own class; number 0 is the law -/
def z_mt0 : List (MethodName × ByteArray × Nat × Option FieldType × Nat) := [(x, code, 4, (some .boolean : Option FieldType), 13),
  (⟨"DoorBench", "<init>", "()V"⟩, prog_1_method_1_code, 1, none, 0),
  (⟨"DoorBench$Tape", "<init>", "()V"⟩, prog_10_method_1_code, 1, none, 1),
  (⟨"DoorBench", "feed", "(II)I"⟩, prog_1_method_2_code, 3, some (.int), 0),
  (⟨"DoorBench$Tape", "take", "(II)Z"⟩, prog_10_method_2_code, 4, some (.boolean), 1),
  (⟨"DoorBench", "agenda", "()I"⟩, prog_1_method_3_code, 3, some (.int), 0),
  (⟨"DoorBench$Tape", "findFault", "()I"⟩, prog_10_method_3_code, 2, some (.int), 1),
  (⟨"java/util/Arrays", "fill", "([II)V"⟩, prog_20_method_103_code, 4, none, 14),
  (⟨"DoorBench$Tape", "expect", "(I)V"⟩, prog_10_method_5_code, 2, none, 1),
  (⟨"DoorBench$Tape", "nameQuestions", "()V"⟩, prog_10_method_8_code, 3, none, 1),
  (⟨"DoorBench$Tape", "fail", "()V"⟩, prog_10_method_6_code, 1, none, 1),
  (⟨"DoorBench$Tape", "anotherPart", "()V"⟩, prog_10_method_9_code, 1, none, 1),
  (⟨"DoorBench$Tape", "passes", "(I)Z"⟩, prog_10_method_4_code, 2, some (.boolean), 1),
  (⟨"DoorBench$Tape", "someQuestions", "()I"⟩, prog_10_method_10_code, 4, some (.int), 1),
  (⟨"DoorBench$Tape", "questionHere", "()I"⟩, prog_10_method_7_code, 2, some (.int), 1),
  (⟨"DoorBench$Tape", "tie", "(I)J"⟩, prog_10_method_11_code, 7, some (.long), 1),
  (⟨"DoorBench$Tape", "either", "(I)J"⟩, prog_10_method_12_code, 7, some (.long), 1),
  (⟨"DoorBench$Tape", "simple", "(I)J"⟩, prog_10_method_13_code, 5, some (.long), 1),
  (⟨"DoorBench$Tape", "yesSets", "(I)J"⟩, prog_10_method_14_code, 2, some (.long), 1),
  (⟨"DoorBench$Tape", "atLeast", "(II)J"⟩, prog_10_method_15_code, 8, some (.long), 1),
  (⟨"java/util/Arrays", "fill", "([JIIJ)V"⟩, prog_20_method_102_code, 6, none, 14),
  (⟨"java/util/Arrays", "rangeCheck", "(III)V"⟩, prog_20_method_30_code, 3, none, 14),
  (⟨"DoorBench$Tape", "told", "()LDoorBench$Agenda;"⟩, prog_10_method_16_code, 7, some (.object "DoorBench$Agenda"), 1),
  (⟨"DoorBench$Agenda", "<init>", "(IIII[J)V"⟩, prog_2_method_1_code, 8, none, 2),
  (⟨"DoorBench$Agenda", "keptWithout", "(II)J"⟩, prog_2_method_3_code, 6, some (.long), 2),
  (⟨"java/lang/Long", "bitCount", "(J)I"⟩, prog_16_method_50_code, 2, some (.int), 16),
  (⟨"DoorBench$Agenda", "listSets", "()V"⟩, prog_2_method_2_code, 4, none, 2),
  (⟨"DoorBench$Agenda", "isLawful", "(I)Z"⟩, prog_2_method_7_code, 2, some (.boolean), 2),
  (⟨"DoorBench$Agenda", "hasSet", "(I)Z"⟩, prog_2_method_5_code, 2, some (.boolean), 2),
  (⟨"DoorBench", "found", "(LDoorBench$Agenda;)I"⟩, prog_1_method_4_code, 2, some (.int), 0),
  (⟨"DoorBench$Agenda", "impossibleTies", "()I"⟩, prog_2_method_18_code, 6, some (.int), 2),
  (⟨"java/lang/Integer", "bitCount", "(I)I"⟩, prog_15_method_49_code, 1, some (.int), 15),
  (⟨"DoorBench$Agenda", "noneKeeps", "(I)Z"⟩, prog_2_method_19_code, 3, some (.boolean), 2),
  (⟨"DoorBench$Bench", "<init>", "(LDoorBench$Agenda;)V"⟩, prog_3_method_1_code, 2, none, 3),
  (⟨"DoorBench", "of", "(II)I"⟩, prog_1_method_5_code, 4, some (.int), 0),
  (⟨"DoorBench", "benchOf", "(I)LDoorBench$Bench;"⟩, prog_1_method_45_code, 2, some (.object "DoorBench$Bench"), 0),
  (⟨"DoorBench", "lawful", "(II)I"⟩, prog_1_method_6_code, 4, some (.int), 0),
  (⟨"DoorBench", "agendaOf", "(I)LDoorBench$Agenda;"⟩, prog_1_method_46_code, 2, some (.object "DoorBench$Agenda"), 0),
  (⟨"DoorBench", "broken", "(II)I"⟩, prog_1_method_7_code, 4, some (.int), 0),
  (⟨"DoorBench$Agenda", "answersOf", "(I)I"⟩, prog_2_method_8_code, 2, some (.int), 2)]
def z_mt1 : List (MethodName × ByteArray × Nat × Option FieldType × Nat) := [(⟨"DoorBench$Agenda", "tiesBrokenBy", "(I)I"⟩, prog_2_method_16_code, 7, some (.int), 2),
  (⟨"DoorBench$Agenda", "setsHaving", "(II)J"⟩, prog_2_method_17_code, 9, some (.long), 2),
  (⟨"DoorBench", "stands", "(III)I"⟩, prog_1_method_8_code, 5, some (.int), 0),
  (⟨"DoorBench$Agenda", "canBeTold", "(II)Z"⟩, prog_2_method_6_code, 3, some (.boolean), 2),
  (⟨"DoorBench$Agenda", "canStand", "(I)Z"⟩, prog_2_method_13_code, 3, some (.boolean), 2),
  (⟨"DoorBench$Agenda", "having", "(II)J"⟩, prog_2_method_12_code, 6, some (.long), 2),
  (⟨"DoorBench$Agenda", "wholeSpan", "(I)J"⟩, prog_2_method_10_code, 3, some (.long), 2),
  (⟨"DoorBench", "forced", "(IIII)I"⟩, prog_1_method_9_code, 7, some (.int), 0),
  (⟨"DoorBench$Agenda", "hasQuestion", "(I)Z"⟩, prog_2_method_4_code, 2, some (.boolean), 2),
  (⟨"DoorBench$Agenda", "implied", "(I)I"⟩, prog_2_method_14_code, 10, some (.int), 2),
  (⟨"DoorBench", "why", "(III)I"⟩, prog_1_method_10_code, 6, some (.int), 0),
  (⟨"DoorBench$Agenda", "smallestFallen", "(I)I"⟩, prog_2_method_15_code, 7, some (.int), 2),
  (⟨"DoorBench", "judge", "(IIII)I"⟩, prog_1_method_11_code, 6, some (.int), 0),
  (⟨"DoorBench$Bench", "seat", "(III)V"⟩, prog_3_method_4_code, 4, none, 3),
  (⟨"DoorBench$Bench", "alter", "(III)V"⟩, prog_3_method_5_code, 8, none, 3),
  (⟨"DoorBench", "change", "(IIII)I"⟩, prog_1_method_12_code, 6, some (.int), 0),
  (⟨"DoorBench$Bench", "hasJudge", "(I)Z"⟩, prog_3_method_2_code, 2, some (.boolean), 3),
  (⟨"DoorBench", "read", "(IIII)I"⟩, prog_1_method_13_code, 7, some (.int), 0),
  (⟨"DoorBench", "isShelf", "(I)Z"⟩, prog_1_method_48_code, 1, some (.boolean), 0),
  (⟨"DoorBench", "answersFrom", "(III)I"⟩, prog_1_method_14_code, 7, some (.int), 0),
  (⟨"DoorBench", "clear", "(I)I"⟩, prog_1_method_15_code, 4, some (.int), 0),
  (⟨"DoorBench$Bench", "dismiss", "()V"⟩, prog_3_method_6_code, 1, none, 3),
  (⟨"DoorBench", "ofJudge", "(III)I"⟩, prog_1_method_16_code, 5, some (.int), 0),
  (⟨"DoorBench", "votes", "(III)I"⟩, prog_1_method_17_code, 5, some (.int), 0),
  (⟨"DoorBench", "isEither", "(I)Z"⟩, prog_1_method_49_code, 1, some (.boolean), 0),
  (⟨"DoorBench$Bench", "weightOn", "(I[I)I"⟩, prog_3_method_7_code, 5, some (.int), 3),
  (⟨"DoorBench", "far", "(II)I"⟩, prog_1_method_18_code, 4, some (.int), 0),
  (⟨"DoorBench$Bench", "distance", "(I)I"⟩, prog_3_method_8_code, 4, some (.int), 3),
  (⟨"DoorBench", "nearest", "(II)I"⟩, prog_1_method_19_code, 4, some (.int), 0),
  (⟨"DoorBench$Bench", "nearestAt", "(I)I"⟩, prog_3_method_13_code, 6, some (.int), 3),
  (⟨"DoorBench$Bench", "sumLeans", "()V"⟩, prog_3_method_11_code, 3, none, 3),
  (⟨"java/lang/Math", "min", "(II)I"⟩, prog_17_method_69_code, 2, some (.int), 17),
  (⟨"java/lang/Integer", "numberOfTrailingZeros", "(I)I"⟩, prog_15_method_48_code, 2, some (.int), 15),
  (⟨"java/lang/Math", "max", "(II)I"⟩, prog_17_method_65_code, 2, some (.int), 17),
  (⟨"DoorBench$Bench", "leanOf", "(I)I"⟩, prog_3_method_10_code, 2, some (.int), 3),
  (⟨"DoorBench", "way", "(III)I"⟩, prog_1_method_20_code, 6, some (.int), 0),
  (⟨"DoorBench", "bodyOf", "(III)LDoorBench$Way;"⟩, prog_1_method_21_code, 4, some (.object "DoorBench$Way"), 0),
  (⟨"DoorBench$Heads", "<init>", "(II[I)V"⟩, prog_6_method_1_code, 4, none, 5),
  (⟨"DoorBench$Way", "<init>", "(II[III)V"⟩, prog_12_method_1_code, 6, none, 4),
  (⟨"DoorBench$Premises", "<init>", "(II[I)V"⟩, prog_9_method_1_code, 4, none, 6)]
def z_mt2 : List (MethodName × ByteArray × Nat × Option FieldType × Nat) := [(⟨"DoorBench$Ends", "<init>", "(II[I)V"⟩, prog_5_method_1_code, 4, none, 7),
  (⟨"DoorBench$Near", "<init>", "(II[I)V"⟩, prog_8_method_1_code, 4, none, 8),
  (⟨"DoorBench$Turns", "<init>", "(II[III)V"⟩, prog_11_method_1_code, 6, none, 9),
  (⟨"DoorBench$Chair", "<init>", "(II[III)V"⟩, prog_4_method_1_code, 6, none, 10),
  (⟨"DoorBench$Leader", "<init>", "(II[III)V"⟩, prog_7_method_1_code, 6, none, 11),
  (⟨"DoorBench", "ofWay", "(II)I"⟩, prog_1_method_22_code, 4, some (.int), 0),
  (⟨"DoorBench", "bodyAt", "(I)LDoorBench$Way;"⟩, prog_1_method_47_code, 2, some (.object "DoorBench$Way"), 0),
  (⟨"DoorBench", "outcome", "(III)I"⟩, prog_1_method_23_code, 7, some (.int), 0),
  (⟨"DoorBench$Turns", "decide", "(LDoorBench$Bench;)I"⟩, prog_11_method_2_code, 2, some (.int), 9),
  (⟨"DoorBench$Bench", "orderFrom", "(I)V"⟩, prog_3_method_14_code, 4, none, 3),
  (⟨"DoorBench$Chair", "openYes", "(LDoorBench$Bench;)I"⟩, prog_4_method_2_code, 2, some (.int), 10),
  (⟨"DoorBench$Turns", "openYes", "(LDoorBench$Bench;)I"⟩, prog_11_method_3_code, 2, some (.int), 9),
  (⟨"DoorBench$Bench", "inTurns", "(I)I"⟩, prog_3_method_15_code, 7, some (.int), 3),
  (⟨"DoorBench$Bench", "isYesInTurn", "(IZ)Z"⟩, prog_3_method_16_code, 6, some (.boolean), 3),
  (⟨"DoorBench$Agenda", "answering", "(IZI)J"⟩, prog_2_method_11_code, 6, some (.long), 2),
  (⟨"DoorBench$Ends", "decide", "(LDoorBench$Bench;)I"⟩, prog_5_method_2_code, 5, some (.int), 7),
  (⟨"DoorBench$Agenda", "both", "(I)I"⟩, prog_2_method_9_code, 1, some (.int), 2),
  (⟨"DoorBench$Bench", "byHeads", "()I"⟩, prog_3_method_9_code, 3, some (.int), 3),
  (⟨"DoorBench$Bench", "nearestWith", "(I)I"⟩, prog_3_method_12_code, 10, some (.int), 3),
  (⟨"DoorBench$Heads", "decide", "(LDoorBench$Bench;)I"⟩, prog_6_method_2_code, 2, some (.int), 5),
  (⟨"DoorBench$Leader", "decide", "(LDoorBench$Bench;)I"⟩, prog_7_method_2_code, 4, some (.int), 11),
  (⟨"DoorBench$Near", "decide", "(LDoorBench$Bench;)I"⟩, prog_8_method_2_code, 2, some (.int), 8),
  (⟨"DoorBench$Premises", "decide", "(LDoorBench$Bench;)I"⟩, prog_9_method_2_code, 5, some (.int), 6),
  (⟨"DoorBench$Way", "decide", "(LDoorBench$Bench;)I"⟩, prog_12_method_3_code, 2, some (.int), 4),
  (⟨"DoorBench", "benches", "(II)I"⟩, prog_1_method_24_code, 4, some (.int), 0),
  (⟨"DoorBench", "refusalOfAll", "(II)I"⟩, prog_1_method_50_code, 4, some (.int), 0),
  (⟨"DoorBench$Bench", "manyOf", "(I)I"⟩, prog_3_method_21_code, 2, some (.int), 3),
  (⟨"DoorBench", "choose", "(II)I"⟩, prog_1_method_54_code, 2, some (.int), 0),
  (⟨"DoorBench", "unlawful", "(IIII)I"⟩, prog_1_method_25_code, 7, some (.int), 0),
  (⟨"DoorBench$Way", "unlawfulOnes", "(LDoorBench$Bench;IZ)I"⟩, prog_12_method_9_code, 7, some (.int), 4),
  (⟨"DoorBench$Bench", "sitFirst", "(I)I"⟩, prog_3_method_22_code, 3, some (.int), 3),
  (⟨"DoorBench$Bench", "toldNumbers", "()I"⟩, prog_3_method_25_code, 3, some (.int), 3),
  (⟨"DoorBench$Bench", "sitNext", "()V"⟩, prog_3_method_23_code, 5, none, 3),
  (⟨"DoorBench$Bench", "settle", "()V"⟩, prog_3_method_24_code, 3, none, 3),
  (⟨"DoorBench", "unlike", "(IIIII)I"⟩, prog_1_method_26_code, 9, some (.int), 0),
  (⟨"DoorBench$Way", "unlikeOnes", "(LDoorBench$Way;LDoorBench$Bench;IZ)I"⟩, prog_12_method_10_code, 8, some (.int), 4),
  (⟨"DoorBench", "sway", "(IIII)I"⟩, prog_1_method_27_code, 8, some (.int), 0),
  (⟨"DoorBench$Way", "yesOnes", "(LDoorBench$Bench;II)I"⟩, prog_12_method_11_code, 7, some (.int), 4),
  (⟨"DoorBench", "twist", "(III)I"⟩, prog_1_method_28_code, 6, some (.int), 0),
  (⟨"DoorBench$Bench", "isSilent", "(I)Z"⟩, prog_3_method_3_code, 2, some (.boolean), 3)]
def z_mt3 : List (MethodName × ByteArray × Nat × Option FieldType × Nat) := [(⟨"DoorBench$Way", "bestTwist", "(LDoorBench$Bench;I)I"⟩, prog_12_method_12_code, 11, some (.int), 4),
  (⟨"DoorBench", "twisted", "(III)I"⟩, prog_1_method_29_code, 6, some (.int), 0),
  (⟨"DoorBench$Way", "twistedOnes", "(LDoorBench$Bench;I[I)I"⟩, prog_12_method_13_code, 10, some (.int), 4),
  (⟨"DoorBench$Bench", "rank", "()I"⟩, prog_3_method_26_code, 3, some (.int), 3),
  (⟨"DoorBench$Way", "recall", "(LDoorBench$Bench;I[I)I"⟩, prog_12_method_15_code, 5, some (.int), 4),
  (⟨"DoorBench$Chair", "placeOf", "(LDoorBench$Bench;I)I"⟩, prog_4_method_3_code, 4, some (.int), 10),
  (⟨"DoorBench$Leader", "placeOf", "(LDoorBench$Bench;I)I"⟩, prog_7_method_3_code, 3, some (.int), 11),
  (⟨"DoorBench$Way", "placeOf", "(LDoorBench$Bench;I)I"⟩, prog_12_method_16_code, 3, some (.int), 4),
  (⟨"DoorBench$Way", "twists", "(LDoorBench$Bench;II[I)Z"⟩, prog_12_method_14_code, 13, some (.boolean), 4),
  (⟨"DoorBench$Bench", "rankOfOthers", "(I)I"⟩, prog_3_method_28_code, 4, some (.int), 3),
  (⟨"DoorBench$Bench", "otherThan", "(II)I"⟩, prog_3_method_27_code, 3, some (.int), 3),
  (⟨"DoorBench", "breach", "(IIII)I"⟩, prog_1_method_30_code, 7, some (.int), 0),
  (⟨"DoorBench", "refusalOfRows", "(II)I"⟩, prog_1_method_51_code, 4, some (.int), 0),
  (⟨"DoorBench$Way", "decideRows", "(LDoorBench$Bench;I[I)V"⟩, prog_12_method_17_code, 6, none, 4),
  (⟨"DoorBench$Bench", "manyRows", "()I"⟩, prog_3_method_29_code, 3, some (.int), 3),
  (⟨"DoorBench$Bench", "sitRow", "(I)V"⟩, prog_3_method_32_code, 2, none, 3),
  (⟨"DoorBench$Bench", "numberAll", "(I)V"⟩, prog_3_method_31_code, 3, none, 3),
  (⟨"DoorBench$Bench", "numberIn", "(II)I"⟩, prog_3_method_30_code, 6, some (.int), 3),
  (⟨"DoorBench$Bench", "breachOf", "(I[I)I"⟩, prog_3_method_34_code, 4, some (.int), 3),
  (⟨"DoorBench$Bench", "firstUnalike", "([II)I"⟩, prog_3_method_35_code, 4, some (.int), 3),
  (⟨"DoorBench$Bench", "rowInOrder", "(I)I"⟩, prog_3_method_36_code, 6, some (.int), 3),
  (⟨"DoorBench$Bench", "firstNotOwn", "([II)I"⟩, prog_3_method_37_code, 7, some (.int), 3),
  (⟨"DoorBench$Bench", "whoSaysYes", "(I)I"⟩, prog_3_method_38_code, 4, some (.int), 3),
  (⟨"DoorBench$Bench", "firstOtherMind", "([II)I"⟩, prog_3_method_39_code, 7, some (.int), 3),
  (⟨"DoorBench$Bench", "firstUnlawful", "([II)I"⟩, prog_3_method_40_code, 4, some (.int), 3),
  (⟨"DoorBench$Bench", "firstSomebody", "([II)I"⟩, prog_3_method_41_code, 6, some (.int), 3),
  (⟨"DoorBench", "keeper", "(III)I"⟩, prog_1_method_31_code, 6, some (.int), 0),
  (⟨"DoorBench$Bench", "keepsAll", "(I[I)Z"⟩, prog_3_method_33_code, 4, some (.boolean), 3),
  (⟨"DoorBench", "mend", "(III)I"⟩, prog_1_method_32_code, 5, some (.int), 0),
  (⟨"DoorBench$Agenda", "mendBy", "(II)I"⟩, prog_2_method_20_code, 8, some (.int), 2),
  (⟨"DoorBench$Agenda", "isSafeWithout", "(II)Z"⟩, prog_2_method_21_code, 4, some (.boolean), 2),
  (⟨"DoorBench$Agenda", "listFew", "(I)I"⟩, prog_2_method_22_code, 8, some (.int), 2),
  (⟨"java/lang/Long", "numberOfTrailingZeros", "(J)I"⟩, prog_16_method_49_code, 3, some (.int), 16),
  (⟨"DoorBench$Agenda", "foursStand", "(I)Z"⟩, prog_2_method_24_code, 12, some (.boolean), 2),
  (⟨"DoorBench$Agenda", "someOfFew", "(III)Z"⟩, prog_2_method_25_code, 5, some (.boolean), 2),
  (⟨"DoorBench$Agenda", "threesStand", "(I)Z"⟩, prog_2_method_23_code, 8, some (.boolean), 2),
  (⟨"DoorBench", "orders", "(III)I"⟩, prog_1_method_33_code, 5, some (.int), 0),
  (⟨"DoorBench$Bench", "ordersFor", "(IZ)I"⟩, prog_3_method_17_code, 6, some (.int), 3),
  (⟨"DoorBench$Bench", "orderDigits", "()I"⟩, prog_3_method_18_code, 3, some (.int), 3),
  (⟨"DoorBench$Bench", "nextOrder", "()V"⟩, prog_3_method_19_code, 6, none, 3)]
def z_mt4 : List (MethodName × ByteArray × Nat × Option FieldType × Nat) := [(⟨"DoorBench$Bench", "swapOrder", "(II)V"⟩, prog_3_method_20_code, 4, none, 3),
  (⟨"DoorBench", "act", "(III)I"⟩, prog_1_method_34_code, 5, some (.int), 0),
  (⟨"DoorBench$Heads", "counts", "(I)I"⟩, prog_6_method_3_code, 2, some (.int), 5),
  (⟨"DoorBench$Way", "note", "(I)V"⟩, prog_12_method_4_code, 2, none, 4),
  (⟨"DoorBench$Near", "counts", "(I)I"⟩, prog_8_method_3_code, 2, some (.int), 8),
  (⟨"DoorBench$Way", "counts", "(I)I"⟩, prog_12_method_5_code, 2, some (.int), 4),
  (⟨"DoorBench$Chair", "weighs", "(I)I"⟩, prog_4_method_5_code, 2, some (.int), 10),
  (⟨"DoorBench$Turns", "weighs", "(I)I"⟩, prog_11_method_4_code, 2, some (.int), 9),
  (⟨"DoorBench$Premises", "weighs", "(I)I"⟩, prog_9_method_3_code, 2, some (.int), 6),
  (⟨"DoorBench$Way", "weighs", "(I)I"⟩, prog_12_method_6_code, 2, some (.int), 4),
  (⟨"DoorBench$Chair", "binds", "(I)I"⟩, prog_4_method_4_code, 2, some (.int), 10),
  (⟨"DoorBench$Ends", "binds", "(I)I"⟩, prog_5_method_3_code, 2, some (.int), 7),
  (⟨"DoorBench$Way", "binds", "(I)I"⟩, prog_12_method_7_code, 2, some (.int), 4),
  (⟨"DoorBench$Turns", "tells", "(I)I"⟩, prog_11_method_5_code, 2, some (.int), 9),
  (⟨"DoorBench$Leader", "tells", "(I)I"⟩, prog_7_method_4_code, 2, some (.int), 11),
  (⟨"DoorBench$Way", "tells", "(I)I"⟩, prog_12_method_8_code, 2, some (.int), 4),
  (⟨"DoorBench", "trace", "(I)I"⟩, prog_1_method_35_code, 2, some (.int), 0),
  (⟨"DoorBench", "keep", "(II)I"⟩, prog_1_method_36_code, 3, some (.int), 0),
  (⟨"DoorBench", "row", "(III)I"⟩, prog_1_method_37_code, 4, some (.int), 0),
  (⟨"DoorBench", "put", "(IIJ)I"⟩, prog_1_method_38_code, 6, some (.int), 0),
  (⟨"DoorBench", "refusalOfPlace", "(II)I"⟩, prog_1_method_52_code, 3, some (.int), 0),
  (⟨"DoorBench", "lowestBits", "(IJ)J"⟩, prog_1_method_39_code, 3, some (.long), 0),
  (⟨"DoorBench", "element", "(II)J"⟩, prog_1_method_40_code, 3, some (.long), 0),
  (⟨"DoorBench", "shift", "(IIIII)I"⟩, prog_1_method_41_code, 6, some (.int), 0),
  (⟨"DoorBench", "hasPlaces", "(III)Z"⟩, prog_1_method_53_code, 4, some (.boolean), 0),
  (⟨"DoorBench", "taken", "(II)I"⟩, prog_1_method_42_code, 4, some (.int), 0),
  (⟨"DoorBench$Way", "isUnder", "(I)Z"⟩, prog_12_method_2_code, 4, some (.boolean), 4),
  (⟨"DoorBench", "count", "(I)I"⟩, prog_1_method_43_code, 2, some (.int), 0),
  (⟨"DoorBench", "allJudges", "()I"⟩, prog_1_method_44_code, 3, some (.int), 0),
  (⟨"DoorBenchModel", "<init>", "()V"⟩, prog_14_method_1_code, 2, none, 12),
  (⟨"DoorBenchModel", "feed", "(II)I"⟩, prog_14_method_4_code, 4, some (.int), 12),
  (⟨"DoorBenchModel", "within", "(JJJ)Z"⟩, prog_14_method_2_code, 6, some (.boolean), 12),
  (⟨"DoorBenchModel", "agenda", "()I"⟩, prog_14_method_22_code, 6, some (.int), 12),
  (⟨"DoorBenchModel", "firstPart", "()V"⟩, prog_14_method_17_code, 5, none, 12),
  (⟨"DoorBenchModel", "takes", "(I)Z"⟩, prog_14_method_7_code, 2, some (.boolean), 12),
  (⟨"DoorBenchModel", "byteAt", "()I"⟩, prog_14_method_5_code, 1, some (.int), 12),
  (⟨"DoorBenchModel", "wrong", "()Z"⟩, prog_14_method_6_code, 1, some (.boolean), 12),
  (⟨"DoorBenchModel", "questionOf", "(I)I"⟩, prog_14_method_8_code, 3, some (.int), 12),
  (⟨"DoorBenchModel", "otherPart", "()V"⟩, prog_14_method_18_code, 4, none, 12),
  (⟨"DoorBenchModel", "letters", "()I"⟩, prog_14_method_16_code, 5, some (.int), 12)]
def z_mt5 : List (MethodName × ByteArray × Nat × Option FieldType × Nat) := [(⟨"DoorBenchModel", "alike", "()Z"⟩, prog_14_method_9_code, 3, some (.boolean), 12),
  (⟨"DoorBenchModel", "implied", "()Z"⟩, prog_14_method_10_code, 3, some (.boolean), 12),
  (⟨"DoorBenchModel", "either", "()Z"⟩, prog_14_method_11_code, 3, some (.boolean), 12),
  (⟨"DoorBenchModel", "both", "()Z"⟩, prog_14_method_12_code, 3, some (.boolean), 12),
  (⟨"DoorBenchModel", "one", "()Z"⟩, prog_14_method_14_code, 3, some (.boolean), 12),
  (⟨"DoorBenchModel", "opens", "()Z"⟩, prog_14_method_13_code, 1, some (.boolean), 12),
  (⟨"DoorBenchModel", "atLeast", "(I)Z"⟩, prog_14_method_15_code, 4, some (.boolean), 12),
  (⟨"DoorBenchModel", "keeps", "(III)Z"⟩, prog_14_method_19_code, 4, some (.boolean), 12),
  (⟨"DoorBenchModel", "smallestPart", "(I)I"⟩, prog_14_method_21_code, 6, some (.int), 12),
  (⟨"DoorBenchModel", "countOf", "(I)I"⟩, prog_14_method_20_code, 3, some (.int), 12),
  (⟨"DoorBenchModel", "of", "(II)I"⟩, prog_14_method_23_code, 3, some (.int), 12),
  (⟨"DoorBenchModel", "isAgenda", "(I)Z"⟩, prog_14_method_3_code, 2, some (.boolean), 12),
  (⟨"DoorBenchModel", "lawful", "(II)I"⟩, prog_14_method_24_code, 3, some (.int), 12),
  (⟨"DoorBenchModel", "broken", "(II)I"⟩, prog_14_method_26_code, 3, some (.int), 12),
  (⟨"DoorBenchModel", "isSet", "(II)Z"⟩, prog_14_method_25_code, 3, some (.boolean), 12),
  (⟨"DoorBenchModel", "stands", "(III)I"⟩, prog_14_method_30_code, 4, some (.int), 12),
  (⟨"DoorBenchModel", "areAnswers", "(III)Z"⟩, prog_14_method_27_code, 4, some (.boolean), 12),
  (⟨"DoorBenchModel", "canStand", "(III)Z"⟩, prog_14_method_29_code, 6, some (.boolean), 12),
  (⟨"DoorBenchModel", "hasThese", "(III)Z"⟩, prog_14_method_28_code, 3, some (.boolean), 12),
  (⟨"DoorBenchModel", "forced", "(IIII)I"⟩, prog_14_method_33_code, 5, some (.int), 12),
  (⟨"DoorBenchModel", "isQuestion", "(II)Z"⟩, prog_14_method_32_code, 3, some (.boolean), 12),
  (⟨"DoorBenchModel", "forcedBy", "(IIII)I"⟩, prog_14_method_31_code, 9, some (.int), 12),
  (⟨"DoorBenchModel", "why", "(III)I"⟩, prog_14_method_34_code, 9, some (.int), 12),
  (⟨"DoorBenchModel", "judge", "(IIII)I"⟩, prog_14_method_36_code, 6, some (.int), 12),
  (⟨"DoorBenchModel", "change", "(IIII)I"⟩, prog_14_method_37_code, 5, some (.int), 12),
  (⟨"DoorBenchModel", "isJudge", "(II)Z"⟩, prog_14_method_35_code, 3, some (.boolean), 12),
  (⟨"DoorBenchModel", "read", "(IIII)I"⟩, prog_14_method_38_code, 12, some (.int), 12),
  (⟨"DoorBenchModel", "isShelf", "(I)Z"⟩, prog_14_method_97_code, 1, some (.boolean), 12),
  (⟨"DoorBenchModel", "clear", "(I)I"⟩, prog_14_method_39_code, 3, some (.int), 12),
  (⟨"DoorBenchModel", "ofJudge", "(III)I"⟩, prog_14_method_40_code, 5, some (.int), 12),
  (⟨"DoorBenchModel", "votes", "(III)I"⟩, prog_14_method_47_code, 4, some (.int), 12),
  (⟨"DoorBenchModel", "sitDown", "(I)V"⟩, prog_14_method_41_code, 3, none, 12),
  (⟨"DoorBenchModel", "votesFor", "(II)I"⟩, prog_14_method_44_code, 5, some (.int), 12),
  (⟨"DoorBenchModel", "far", "(II)I"⟩, prog_14_method_48_code, 3, some (.int), 12),
  (⟨"DoorBenchModel", "farFrom", "(I)I"⟩, prog_14_method_46_code, 4, some (.int), 12),
  (⟨"DoorBenchModel", "nearest", "(II)I"⟩, prog_14_method_49_code, 7, some (.int), 12),
  (⟨"DoorBenchModel", "nearestOf", "(II)I"⟩, prog_14_method_50_code, 6, some (.int), 12),
  (⟨"DoorBenchModel", "way", "(III)I"⟩, prog_14_method_51_code, 4, some (.int), 12),
  (⟨"DoorBenchModel", "ofWay", "(II)I"⟩, prog_14_method_53_code, 3, some (.int), 12),
  (⟨"DoorBenchModel", "isWay", "(I)Z"⟩, prog_14_method_52_code, 2, some (.boolean), 12)]
def z_mt6 : List (MethodName × ByteArray × Nat × Option FieldType × Nat) := [(⟨"DoorBenchModel", "outcome", "(III)I"⟩, prog_14_method_63_code, 4, some (.int), 12),
  (⟨"DoorBenchModel", "find", "(I)V"⟩, prog_14_method_60_code, 3, none, 12),
  (⟨"DoorBenchModel", "all", "()I"⟩, prog_14_method_42_code, 1, some (.int), 12),
  (⟨"DoorBenchModel", "byHeads", "(I)V"⟩, prog_14_method_55_code, 3, none, 12),
  (⟨"DoorBenchModel", "heads", "(I)I"⟩, prog_14_method_45_code, 4, some (.int), 12),
  (⟨"DoorBenchModel", "answer", "(II)V"⟩, prog_14_method_54_code, 3, none, 12),
  (⟨"DoorBenchModel", "byPremises", "()V"⟩, prog_14_method_56_code, 4, none, 12),
  (⟨"DoorBenchModel", "byEnds", "()V"⟩, prog_14_method_57_code, 3, none, 12),
  (⟨"DoorBenchModel", "byTurns", "(I)V"⟩, prog_14_method_58_code, 6, none, 12),
  (⟨"DoorBenchModel", "byLeader", "(I)V"⟩, prog_14_method_59_code, 3, none, 12),
  (⟨"DoorBenchModel", "brokenBy", "()I"⟩, prog_14_method_61_code, 3, some (.int), 12),
  (⟨"DoorBenchModel", "isUnlawful", "()Z"⟩, prog_14_method_62_code, 1, some (.boolean), 12),
  (⟨"DoorBenchModel", "benches", "(II)I"⟩, prog_14_method_69_code, 6, some (.int), 12),
  (⟨"DoorBenchModel", "noBenches", "(II)I"⟩, prog_14_method_68_code, 3, some (.int), 12),
  (⟨"DoorBenchModel", "begin", "(II)V"⟩, prog_14_method_64_code, 4, none, 12),
  (⟨"DoorBenchModel", "seatAll", "()V"⟩, prog_14_method_65_code, 2, none, 12),
  (⟨"DoorBenchModel", "seat", "(II)V"⟩, prog_14_method_43_code, 3, none, 12),
  (⟨"DoorBenchModel", "goOn", "(Z)Z"⟩, prog_14_method_66_code, 5, some (.boolean), 12),
  (⟨"DoorBenchModel", "unlawful", "(IIII)I"⟩, prog_14_method_70_code, 10, some (.int), 12),
  (⟨"DoorBenchModel", "code", "()I"⟩, prog_14_method_67_code, 3, some (.int), 12),
  (⟨"DoorBenchModel", "unlike", "(IIIII)I"⟩, prog_14_method_71_code, 13, some (.int), 12),
  (⟨"DoorBenchModel", "sway", "(IIII)I"⟩, prog_14_method_72_code, 8, some (.int), 12),
  (⟨"DoorBenchModel", "twist", "(III)I"⟩, prog_14_method_75_code, 4, some (.int), 12),
  (⟨"DoorBenchModel", "twistOf", "(II)I"⟩, prog_14_method_74_code, 9, some (.int), 12),
  (⟨"DoorBenchModel", "apart", "(I)I"⟩, prog_14_method_73_code, 2, some (.int), 12),
  (⟨"DoorBenchModel", "twisted", "(III)I"⟩, prog_14_method_76_code, 9, some (.int), 12),
  (⟨"DoorBenchModel", "breach", "(IIII)I"⟩, prog_14_method_83_code, 5, some (.int), 12),
  (⟨"DoorBenchModel", "breachOf", "(IIII)I"⟩, prog_14_method_82_code, 8, some (.int), 12),
  (⟨"DoorBenchModel", "findRows", "(III)V"⟩, prog_14_method_77_code, 6, none, 12),
  (⟨"DoorBenchModel", "setOf", "(II)I"⟩, prog_14_method_78_code, 3, some (.int), 12),
  (⟨"DoorBenchModel", "sortedRow", "(II)I"⟩, prog_14_method_79_code, 7, some (.int), 12),
  (⟨"DoorBenchModel", "isOwn", "(II)Z"⟩, prog_14_method_80_code, 8, some (.boolean), 12),
  (⟨"DoorBenchModel", "isMinded", "(II)Z"⟩, prog_14_method_81_code, 5, some (.boolean), 12),
  (⟨"DoorBenchModel", "keeper", "(III)I"⟩, prog_14_method_84_code, 7, some (.int), 12),
  (⟨"DoorBenchModel", "mend", "(III)I"⟩, prog_14_method_86_code, 8, some (.int), 12),
  (⟨"DoorBenchModel", "mends", "(III)Z"⟩, prog_14_method_85_code, 10, some (.boolean), 12),
  (⟨"DoorBenchModel", "orders", "(III)I"⟩, prog_14_method_88_code, 4, some (.int), 12),
  (⟨"DoorBenchModel", "tryOrders", "(IIII)V"⟩, prog_14_method_87_code, 6, none, 12),
  (⟨"DoorBenchModel", "act", "(III)I"⟩, prog_14_method_95_code, 4, some (.int), 12),
  (⟨"DoorBenchModel", "counts", "(II)I"⟩, prog_14_method_91_code, 3, some (.int), 12)]
def z_mt7 : List (MethodName × ByteArray × Nat × Option FieldType × Nat) := [(⟨"DoorBenchModel", "ranBody", "(I)V"⟩, prog_14_method_90_code, 2, none, 12),
  (⟨"DoorBenchModel", "above", "(I)I"⟩, prog_14_method_89_code, 1, some (.int), 12),
  (⟨"DoorBenchModel", "weighs", "(II)I"⟩, prog_14_method_92_code, 4, some (.int), 12),
  (⟨"DoorBenchModel", "binds", "(II)I"⟩, prog_14_method_93_code, 3, some (.int), 12),
  (⟨"DoorBenchModel", "tells", "(II)I"⟩, prog_14_method_94_code, 4, some (.int), 12),
  (⟨"DoorBenchModel", "trace", "(I)I"⟩, prog_14_method_96_code, 2, some (.int), 12),
  (⟨"DoorBenchModel", "keep", "(II)I"⟩, prog_14_method_98_code, 3, some (.int), 12),
  (⟨"DoorBenchModel", "row", "(III)I"⟩, prog_14_method_99_code, 5, some (.int), 12),
  (⟨"DoorBenchModel", "put", "(IIJ)I"⟩, prog_14_method_102_code, 6, some (.int), 12),
  (⟨"DoorBenchModel", "refusal", "(II)I"⟩, prog_14_method_100_code, 3, some (.int), 12),
  (⟨"DoorBenchModel", "asSort", "(IJ)J"⟩, prog_14_method_101_code, 3, some (.long), 12),
  (⟨"DoorBenchModel", "element", "(II)J"⟩, prog_14_method_103_code, 3, some (.long), 12),
  (⟨"DoorBenchModel", "shift", "(IIIII)I"⟩, prog_14_method_104_code, 7, some (.int), 12),
  (⟨"DoorBenchModel", "taken", "(II)I"⟩, prog_14_method_105_code, 4, some (.int), 12),
  (⟨"DoorBenchModel", "count", "(I)I"⟩, prog_14_method_106_code, 4, some (.int), 12)]
def z_mt : List (MethodName × ByteArray × Nat × Option FieldType × Nat) := z_mt0 ++ (z_mt1 ++ (z_mt2 ++ (z_mt3 ++ (z_mt4 ++ (z_mt5 ++ (z_mt6 ++ (z_mt7)))))))
def z_mp : List Nat := [0, 135, 143, 232, 236, 240, 244, 247, 251, 255, 259, 263, 267, 271, 275, 279, 284, 288, 292, 298, 301, 304, 308, 313, 319, 322, 329, 333, 337, 400, 404, 407, 414, 418, 481, 485, 489, 493, 497, 502, 506, 510, 515, 519, 523, 527, 531, 535, 539, 543, 547, 551, 556, 560, 564, 568, 572, 577, 580, 584, 589, 593, 598, 602, 605, 609, 613, 617, 622, 626, 630, 633, 636, 640, 644, 648, 654, 659, 662, 693, 705, 717, 729, 741, 753, 772, 776, 780, 787, 791, 798, 800, 804, 809, 813, 816, 819, 823, 827, 833, 837, 842, 848, 853, 857, 861, 865, 868, 874, 886, 890, 899, 903, 907, 911, 923, 927, 939, 943, 947, 959, 966, 978, 983, 987, 994, 999, 1003, 1008, 1012, 1016, 1022, 1026, 1038, 1042, 1046, 1050, 1054, 1058, 1063, 1067, 1071, 1075, 1079, 1084, 1089, 1093, 1097, 1102, 1106, 1110, 1114, 1117, 1122, 1126, 1130, 1134, 1138, 1144, 1148, 1152, 1156, 1164, 1172, 1178, 1185, 1193, 1199, 1211, 1223, 1231, 1237, 1248, 1255, 1261, 1270, 1276, 1280, 1284, 1289, 1293, 1296, 1300, 1305, 1309, 1316, 1328, 1333, 1337, 1342, 1507, 1511, 1515, 1519, 1523, 1527, 1531, 1537, 1541, 1545, 1549, 1553, 1557, 1561, 1565, 1569, 1575, 1579, 1583, 1586, 1590, 1594, 1598, 1602, 1606, 1610, 1614, 1618, 1621, 1625, 1629, 1633, 1637, 1641, 1646, 1650, 1654, 1657, 1662, 1666, 1671, 1675, 1679, 1683, 1687, 1691, 1695, 1699, 1705, 1709, 1713, 1717, 1721, 1725, 1729, 1733, 1737, 1741, 1745, 1749, 1753, 1757, 1761, 1765, 1769, 1773, 1777, 1781, 1785, 1789, 1793, 1797, 1801, 1805, 1809, 1813, 1817, 1822, 1826, 1830, 1834, 1838, 1842, 1846, 1851, 1855, 1859, 1863, 1867, 1871, 1875, 1878, 1882, 1886, 1890, 1894, 1898, 1902, 1906, 1910, 1913, 1917, 1922, 1926, 1930]
def z_m (j : Nat) : MethodName × ByteArray × Nat × Option FieldType × Nat := (z_mt[j]?).getD (x, code, 4, (some .boolean : Option FieldType), 13)
/-- fields in the pools: own class, index; the field's number, the classes that have it; reference, declarer, name, descriptor; where its words stand -/
def z_fl0 : List ((Nat × Nat) × (Nat × List Nat) × (String × String × String × String) × (Nat × Nat)) := [((1, 9), (0, [1]), ("DoorBench$Tape", "DoorBench$Tape", "bytes", "[I"), (145, 0)),
  ((1, 25), (1, [1]), ("DoorBench$Tape", "DoorBench$Tape", "length", "I"), (146, 0)),
  ((0, 55), (1, [1]), ("DoorBench$Tape", "DoorBench$Tape", "length", "I"), (147, 0)),
  ((1, 29), (2, [1]), ("DoorBench$Tape", "DoorBench$Tape", "at", "I"), (148, 0)),
  ((1, 32), (3, [1]), ("DoorBench$Tape", "DoorBench$Tape", "fault", "I"), (149, 0)),
  ((1, 47), (4, [1]), ("DoorBench$Tape", "DoorBench$Tape", "questions", "I"), (150, 0)),
  ((1, 44), (5, [1]), ("DoorBench$Tape", "DoorBench$Tape", "premises", "I"), (151, 0)),
  ((1, 41), (6, [1]), ("DoorBench$Tape", "DoorBench$Tape", "ends", "I"), (152, 0)),
  ((1, 38), (7, [1]), ("DoorBench$Tape", "DoorBench$Tape", "ties", "I"), (153, 0)),
  ((1, 15), (8, [1]), ("DoorBench$Tape", "DoorBench$Tape", "numbers", "[I"), (154, 0)),
  ((1, 18), (9, [1]), ("DoorBench$Tape", "DoorBench$Tape", "tieStarts", "[I"), (155, 0)),
  ((1, 35), (10, [1]), ("DoorBench$Tape", "DoorBench$Tape", "block", "I"), (156, 0)),
  ((1, 21), (11, [1]), ("DoorBench$Tape", "DoorBench$Tape", "reached", "[J"), (157, 0)),
  ((0, 10), (0, [0]), ("DoorBench", "DoorBench", "tape", "LDoorBench$Tape;"), (189, 0)),
  ((0, 18), (1, [0]), ("DoorBench", "DoorBench", "seated", "[LDoorBench$Bench;"), (190, 0)),
  ((0, 22), (2, [0]), ("DoorBench", "DoorBench", "trials", "[LDoorBench$Bench;"), (191, 0)),
  ((0, 59), (3, [0]), ("DoorBench", "DoorBench", "agendas", "I"), (192, 0)),
  ((0, 27), (4, [0]), ("DoorBench", "DoorBench", "bodies", "[LDoorBench$Way;"), (193, 0)),
  ((0, 188), (5, [0]), ("DoorBench", "DoorBench", "ways", "I"), (194, 0)),
  ((0, 31), (6, [0]), ("DoorBench", "DoorBench", "ran", "[I"), (195, 0)),
  ((0, 35), (7, [0]), ("DoorBench", "DoorBench", "sorts", "[I"), (196, 0)),
  ((0, 38), (8, [0]), ("DoorBench", "DoorBench", "sizes", "[I"), (197, 0)),
  ((0, 41), (9, [0]), ("DoorBench", "DoorBench", "elements", "[J"), (198, 0)),
  ((0, 45), (10, [0]), ("DoorBench", "DoorBench", "kept", "[LDoorBench$Way;"), (199, 0)),
  ((0, 48), (11, [0]), ("DoorBench", "DoorBench", "outcomes", "[I"), (200, 0)),
  ((0, 267), (12, [0]), ("DoorBench", "DoorBench", "remembered", "[I"), (201, 0)),
  ((2, 15), (0, [2]), ("DoorBench$Agenda", "DoorBench$Agenda", "questions", "I"), (338, 0)),
  ((3, 63), (0, [2]), ("DoorBench$Agenda", "DoorBench$Agenda", "questions", "I"), (339, 0)),
  ((0, 93), (0, [2]), ("DoorBench$Agenda", "DoorBench$Agenda", "questions", "I"), (340, 0)),
  ((4, 85), (0, [2]), ("DoorBench$Agenda", "DoorBench$Agenda", "questions", "I"), (341, 0)),
  ((2, 32), (1, [2]), ("DoorBench$Agenda", "DoorBench$Agenda", "all", "I"), (342, 0)),
  ((3, 56), (1, [2]), ("DoorBench$Agenda", "DoorBench$Agenda", "all", "I"), (343, 0)),
  ((4, 88), (1, [2]), ("DoorBench$Agenda", "DoorBench$Agenda", "all", "I"), (344, 0)),
  ((0, 238), (1, [2]), ("DoorBench$Agenda", "DoorBench$Agenda", "all", "I"), (345, 0)),
  ((2, 19), (2, [2]), ("DoorBench$Agenda", "DoorBench$Agenda", "premises", "I"), (346, 0)),
  ((6, 13), (2, [2]), ("DoorBench$Agenda", "DoorBench$Agenda", "premises", "I"), (347, 0)),
  ((0, 99), (2, [2]), ("DoorBench$Agenda", "DoorBench$Agenda", "premises", "I"), (348, 0)),
  ((2, 22), (3, [2]), ("DoorBench$Agenda", "DoorBench$Agenda", "ends", "I"), (349, 0)),
  ((7, 13), (3, [2]), ("DoorBench$Agenda", "DoorBench$Agenda", "ends", "I"), (350, 0)),
  ((0, 102), (3, [2]), ("DoorBench$Agenda", "DoorBench$Agenda", "ends", "I"), (351, 0)),
  ((2, 25), (4, [2]), ("DoorBench$Agenda", "DoorBench$Agenda", "ties", "I"), (352, 0)),
  ((0, 96), (4, [2]), ("DoorBench$Agenda", "DoorBench$Agenda", "ties", "I"), (353, 0)),
  ((2, 60), (5, [2]), ("DoorBench$Agenda", "DoorBench$Agenda", "sets", "[I"), (354, 0)),
  ((10, 33), (5, [2]), ("DoorBench$Agenda", "DoorBench$Agenda", "sets", "[I"), (355, 0)),
  ((0, 74), (5, [2]), ("DoorBench$Agenda", "DoorBench$Agenda", "sets", "[I"), (356, 0)),
  ((4, 82), (5, [2]), ("DoorBench$Agenda", "DoorBench$Agenda", "sets", "[I"), (357, 0)),
  ((3, 101), (5, [2]), ("DoorBench$Agenda", "DoorBench$Agenda", "sets", "[I"), (358, 0)),
  ((2, 35), (6, [2]), ("DoorBench$Agenda", "DoorBench$Agenda", "blocks", "I"), (359, 0)),
  ((2, 40), (7, [2]), ("DoorBench$Agenda", "DoorBench$Agenda", "whole", "J"), (360, 0)),
  ((2, 28), (8, [2]), ("DoorBench$Agenda", "DoorBench$Agenda", "keeping", "[J"), (361, 0)),
  ((2, 44), (9, [2]), ("DoorBench$Agenda", "DoorBench$Agenda", "lawfulBits", "[J"), (362, 0)),
  ((3, 43), (10, [2]), ("DoorBench$Agenda", "DoorBench$Agenda", "spans", "I"), (363, 0)),
  ((2, 63), (10, [2]), ("DoorBench$Agenda", "DoorBench$Agenda", "spans", "I"), (364, 0)),
  ((2, 66), (11, [2]), ("DoorBench$Agenda", "DoorBench$Agenda", "yesOnes", "[J"), (365, 0)),
  ((2, 47), (12, [2]), ("DoorBench$Agenda", "DoorBench$Agenda", "fewBits", "[J"), (366, 0)),
  ((2, 9), (13, [2]), ("DoorBench$Agenda", "DoorBench$Agenda", "few", "[I"), (367, 0)),
  ((3, 39), (0, [3]), ("DoorBench$Bench", "DoorBench$Bench", "agenda", "LDoorBench$Agenda;"), (420, 0)),
  ((7, 7), (0, [3]), ("DoorBench$Bench", "DoorBench$Bench", "agenda", "LDoorBench$Agenda;"), (421, 0)),
  ((8, 7), (0, [3]), ("DoorBench$Bench", "DoorBench$Bench", "agenda", "LDoorBench$Agenda;"), (422, 0)),
  ((6, 7), (0, [3]), ("DoorBench$Bench", "DoorBench$Bench", "agenda", "LDoorBench$Agenda;"), (423, 0))]
def z_fl1 : List ((Nat × Nat) × (Nat × List Nat) × (String × String × String × String) × (Nat × Nat)) := [((11, 28), (0, [3]), ("DoorBench$Bench", "DoorBench$Bench", "agenda", "LDoorBench$Agenda;"), (424, 0)),
  ((10, 29), (0, [3]), ("DoorBench$Bench", "DoorBench$Bench", "agenda", "LDoorBench$Agenda;"), (425, 0)),
  ((0, 89), (0, [3]), ("DoorBench$Bench", "DoorBench$Bench", "agenda", "LDoorBench$Agenda;"), (426, 0)),
  ((4, 50), (0, [3]), ("DoorBench$Bench", "DoorBench$Bench", "agenda", "LDoorBench$Agenda;"), (427, 0)),
  ((3, 9), (1, [3]), ("DoorBench$Bench", "DoorBench$Bench", "weights", "[I"), (428, 0)),
  ((0, 163), (1, [3]), ("DoorBench$Bench", "DoorBench$Bench", "weights", "[I"), (429, 0)),
  ((3, 15), (2, [3]), ("DoorBench$Bench", "DoorBench$Bench", "yes", "[I"), (430, 0)),
  ((10, 19), (2, [3]), ("DoorBench$Bench", "DoorBench$Bench", "yes", "[I"), (431, 0)),
  ((11, 21), (2, [3]), ("DoorBench$Bench", "DoorBench$Bench", "yes", "[I"), (432, 0)),
  ((4, 71), (2, [3]), ("DoorBench$Bench", "DoorBench$Bench", "yes", "[I"), (433, 0)),
  ((0, 166), (2, [3]), ("DoorBench$Bench", "DoorBench$Bench", "yes", "[I"), (434, 0)),
  ((3, 18), (3, [3]), ("DoorBench$Bench", "DoorBench$Bench", "no", "[I"), (435, 0)),
  ((11, 25), (3, [3]), ("DoorBench$Bench", "DoorBench$Bench", "no", "[I"), (436, 0)),
  ((0, 169), (3, [3]), ("DoorBench$Bench", "DoorBench$Bench", "no", "[I"), (437, 0)),
  ((3, 53), (4, [3]), ("DoorBench$Bench", "DoorBench$Bench", "judges", "I"), (438, 0)),
  ((10, 23), (4, [3]), ("DoorBench$Bench", "DoorBench$Bench", "judges", "I"), (439, 0)),
  ((11, 38), (4, [3]), ("DoorBench$Bench", "DoorBench$Bench", "judges", "I"), (440, 0)),
  ((0, 105), (4, [3]), ("DoorBench$Bench", "DoorBench$Bench", "judges", "I"), (441, 0)),
  ((4, 108), (4, [3]), ("DoorBench$Bench", "DoorBench$Bench", "judges", "I"), (442, 0)),
  ((3, 21), (5, [3]), ("DoorBench$Bench", "DoorBench$Bench", "lean", "[I"), (443, 0)),
  ((3, 24), (6, [3]), ("DoorBench$Bench", "DoorBench$Bench", "lowLean", "[I"), (444, 0)),
  ((3, 27), (7, [3]), ("DoorBench$Bench", "DoorBench$Bench", "highLean", "[I"), (445, 0)),
  ((3, 30), (8, [3]), ("DoorBench$Bench", "DoorBench$Bench", "order", "[I"), (446, 0)),
  ((3, 49), (9, [3]), ("DoorBench$Bench", "DoorBench$Bench", "left", "[J"), (447, 0)),
  ((3, 33), (10, [3]), ("DoorBench$Bench", "DoorBench$Bench", "numbers", "[I"), (448, 0)),
  ((10, 26), (10, [3]), ("DoorBench$Bench", "DoorBench$Bench", "numbers", "[I"), (449, 0)),
  ((11, 41), (10, [3]), ("DoorBench$Bench", "DoorBench$Bench", "numbers", "[I"), (450, 0)),
  ((4, 115), (10, [3]), ("DoorBench$Bench", "DoorBench$Bench", "numbers", "[I"), (451, 0)),
  ((3, 36), (11, [3]), ("DoorBench$Bench", "DoorBench$Bench", "before", "[I"), (452, 0)),
  ((4, 9), (0, [4, 5, 6, 7, 8, 9, 10, 11]), ("DoorBench$Way", "DoorBench$Way", "kind", "I"), (664, 0)),
  ((0, 225), (0, [4, 5, 6, 7, 8, 9, 10, 11]), ("DoorBench$Way", "DoorBench$Way", "kind", "I"), (665, 0)),
  ((4, 22), (1, [4, 5, 6, 7, 8, 9, 10, 11]), ("DoorBench$Way", "DoorBench$Way", "shift", "I"), (666, 0)),
  ((9, 7), (1, [4, 5, 6, 7, 8, 9, 10, 11]), ("DoorBench$Turns", "DoorBench$Way", "shift", "I"), (667, 668)),
  ((0, 228), (1, [4, 5, 6, 7, 8, 9, 10, 11]), ("DoorBench$Way", "DoorBench$Way", "shift", "I"), (669, 0)),
  ((4, 25), (2, [4, 5, 6, 7, 8, 9, 10, 11]), ("DoorBench$Way", "DoorBench$Way", "judge", "I"), (670, 0)),
  ((10, 7), (2, [4, 5, 6, 7, 8, 9, 10, 11]), ("DoorBench$Chair", "DoorBench$Way", "judge", "I"), (671, 672)),
  ((11, 9), (2, [4, 5, 6, 7, 8, 9, 10, 11]), ("DoorBench$Leader", "DoorBench$Way", "judge", "I"), (673, 674)),
  ((0, 231), (2, [4, 5, 6, 7, 8, 9, 10, 11]), ("DoorBench$Way", "DoorBench$Way", "judge", "I"), (675, 0)),
  ((4, 15), (3, [4, 5, 6, 7, 8, 9, 10, 11]), ("DoorBench$Way", "DoorBench$Way", "number", "I"), (676, 0)),
  ((4, 18), (4, [4, 5, 6, 7, 8, 9, 10, 11]), ("DoorBench$Way", "DoorBench$Way", "ran", "[I"), (677, 0)),
  ((12, 9), (0, [12]), ("DoorBenchModel", "DoorBenchModel", "tape", "[I"), (1344, 0)),
  ((12, 120), (1, [12]), ("DoorBenchModel", "DoorBenchModel", "tapeMany", "I"), (1345, 0)),
  ((12, 13), (2, [12]), ("DoorBenchModel", "DoorBenchModel", "text", "[I"), (1346, 0)),
  ((12, 16), (3, [12]), ("DoorBenchModel", "DoorBenchModel", "textMany", "[I"), (1347, 0)),
  ((12, 19), (4, [12]), ("DoorBenchModel", "DoorBenchModel", "letter", "[I"), (1348, 0)),
  ((12, 22), (5, [12]), ("DoorBenchModel", "DoorBenchModel", "questions", "[I"), (1349, 0)),
  ((12, 25), (6, [12]), ("DoorBenchModel", "DoorBenchModel", "ties", "[I"), (1350, 0)),
  ((12, 28), (7, [12]), ("DoorBenchModel", "DoorBenchModel", "tieAt", "[I"), (1351, 0)),
  ((12, 31), (8, [12]), ("DoorBenchModel", "DoorBenchModel", "premises", "[I"), (1352, 0)),
  ((12, 34), (9, [12]), ("DoorBenchModel", "DoorBenchModel", "endsOf", "[I"), (1353, 0)),
  ((12, 37), (10, [12]), ("DoorBenchModel", "DoorBenchModel", "breaks", "[I"), (1354, 0)),
  ((12, 40), (11, [12]), ("DoorBenchModel", "DoorBenchModel", "lawfulSets", "[I"), (1355, 0)),
  ((12, 43), (12, [12]), ("DoorBenchModel", "DoorBenchModel", "lawfulMany", "[I"), (1356, 0)),
  ((12, 110), (13, [12]), ("DoorBenchModel", "DoorBenchModel", "agendas", "I"), (1357, 0)),
  ((12, 46), (14, [12]), ("DoorBenchModel", "DoorBenchModel", "weight", "[I"), (1358, 0)),
  ((12, 49), (15, [12]), ("DoorBenchModel", "DoorBenchModel", "yesOf", "[I"), (1359, 0)),
  ((12, 52), (16, [12]), ("DoorBenchModel", "DoorBenchModel", "noOf", "[I"), (1360, 0)),
  ((12, 55), (17, [12]), ("DoorBenchModel", "DoorBenchModel", "judges", "[I"), (1361, 0)),
  ((12, 58), (18, [12]), ("DoorBenchModel", "DoorBenchModel", "kind", "[I"), (1362, 0)),
  ((12, 61), (19, [12]), ("DoorBenchModel", "DoorBenchModel", "shift", "[I"), (1363, 0))]
def z_fl2 : List ((Nat × Nat) × (Nat × List Nat) × (String × String × String × String) × (Nat × Nat)) := [((12, 64), (20, [12]), ("DoorBenchModel", "DoorBenchModel", "chair", "[I"), (1364, 0)),
  ((12, 269), (21, [12]), ("DoorBenchModel", "DoorBenchModel", "ways", "I"), (1365, 0)),
  ((12, 133), (22, [12]), ("DoorBenchModel", "DoorBenchModel", "reads", "I"), (1366, 0)),
  ((12, 129), (23, [12]), ("DoorBenchModel", "DoorBenchModel", "isTape", "Z"), (1367, 0)),
  ((12, 123), (24, [12]), ("DoorBenchModel", "DoorBenchModel", "at", "I"), (1368, 0)),
  ((12, 126), (25, [12]), ("DoorBenchModel", "DoorBenchModel", "ends", "I"), (1369, 0)),
  ((12, 136), (26, [12]), ("DoorBenchModel", "DoorBenchModel", "fault", "I"), (1370, 0)),
  ((12, 160), (27, [12]), ("DoorBenchModel", "DoorBenchModel", "opened", "I"), (1371, 0)),
  ((12, 183), (28, [12]), ("DoorBenchModel", "DoorBenchModel", "set", "I"), (1372, 0)),
  ((12, 242), (29, [12]), ("DoorBenchModel", "DoorBenchModel", "bench", "I"), (1373, 0)),
  ((12, 245), (30, [12]), ("DoorBenchModel", "DoorBenchModel", "sits", "I"), (1374, 0)),
  ((12, 67), (31, [12]), ("DoorBenchModel", "DoorBenchModel", "sitsWeight", "[I"), (1375, 0)),
  ((12, 70), (32, [12]), ("DoorBenchModel", "DoorBenchModel", "sitsYes", "[I"), (1376, 0)),
  ((12, 73), (33, [12]), ("DoorBenchModel", "DoorBenchModel", "sitsNo", "[I"), (1377, 0)),
  ((12, 275), (34, [12]), ("DoorBenchModel", "DoorBenchModel", "yes", "I"), (1378, 0)),
  ((12, 278), (35, [12]), ("DoorBenchModel", "DoorBenchModel", "no", "I"), (1379, 0)),
  ((12, 76), (36, [12]), ("DoorBenchModel", "DoorBenchModel", "order", "[I"), (1380, 0)),
  ((12, 79), (37, [12]), ("DoorBenchModel", "DoorBenchModel", "numbers", "[I"), (1381, 0)),
  ((12, 82), (38, [12]), ("DoorBenchModel", "DoorBenchModel", "rowYes", "[I"), (1382, 0)),
  ((12, 85), (39, [12]), ("DoorBenchModel", "DoorBenchModel", "rowNo", "[I"), (1383, 0)),
  ((12, 88), (40, [12]), ("DoorBenchModel", "DoorBenchModel", "rowNumbers", "[I"), (1384, 0)),
  ((12, 339), (41, [12]), ("DoorBenchModel", "DoorBenchModel", "rowMany", "I"), (1385, 0)),
  ((12, 91), (42, [12]), ("DoorBenchModel", "DoorBenchModel", "mendSets", "[I"), (1386, 0)),
  ((12, 365), (43, [12]), ("DoorBenchModel", "DoorBenchModel", "mendMany", "I"), (1387, 0)),
  ((12, 371), (44, [12]), ("DoorBenchModel", "DoorBenchModel", "ordersMany", "I"), (1388, 0)),
  ((12, 374), (45, [12]), ("DoorBenchModel", "DoorBenchModel", "firstOrder", "I"), (1389, 0)),
  ((12, 94), (46, [12]), ("DoorBenchModel", "DoorBenchModel", "trace", "[I"), (1390, 0)),
  ((12, 381), (47, [12]), ("DoorBenchModel", "DoorBenchModel", "ran", "I"), (1391, 0)),
  ((12, 387), (48, [12]), ("DoorBenchModel", "DoorBenchModel", "acting", "I"), (1392, 0)),
  ((12, 97), (49, [12]), ("DoorBenchModel", "DoorBenchModel", "shelf", "[I"), (1393, 0)),
  ((12, 100), (50, [12]), ("DoorBenchModel", "DoorBenchModel", "many", "[I"), (1394, 0)),
  ((12, 103), (51, [12]), ("DoorBenchModel", "DoorBenchModel", "items", "[J"), (1395, 0)),
  ((12, 107), (52, [12]), ("DoorBenchModel", "DoorBenchModel", "carried", "[J"), (1396, 0))]
def z_fl : List ((Nat × Nat) × (Nat × List Nat) × (String × String × String × String) × (Nat × Nat)) := z_fl0 ++ (z_fl1 ++ (z_fl2))
/-- static fields: own class, index; the read-only cell; name, descriptor; the host of a nest mate ("": none); where its word stands -/
def z_gs : List ((Nat × Nat) × Nat × (String × String) × String × Nat) := [((1, 99), 2, ("YES_SETS", "[J"), "DoorBench", 293), ((2, 97), 2, ("YES_SETS", "[J"), "DoorBench", 511), ((0, 185), 3, ("KIND_ABOVE", "[I"), "", 649), ((0, 340), 1, ("CHOOSE", "[I"), "", 869), ((4, 28), 3, ("KIND_ABOVE", "[I"), "DoorBench", 1329)]
def z_nw : List ((Nat × Nat) × Nat × (Nat × Nat × Nat)) := [((13, 7), 0, (131, 132, 112)), ((0, 7), 1, (139, 140, 113)), ((0, 16), 3, (185, 415, 120)), ((0, 25), 4, (187, 761, 122)), ((1, 105), 2, (309, 310, 116)), ((0, 195), 5, (655, 656, 123)), ((0, 200), 6, (689, 690, 124)), ((0, 203), 7, (701, 702, 125)), ((0, 206), 8, (713, 714, 126)), ((0, 209), 9, (725, 726, 127)), ((0, 214), 10, (737, 738, 128)), ((0, 217), 11, (749, 750, 129)), ((13, 10), 12, (1338, 1339, 114))]
def z_an : List ((Nat × Nat) × Nat × Nat) := [((0, 16), 2, 185), ((0, 25), 3, 187)]
def z_ld : List ((Nat × Nat) × Int32 × Nat) := [((15, 265), 1431655765, 408), ((15, 266), 858993459, 409), ((15, 267), 252645135, 410), ((15, 264), 65536, 637)]
def z_l2 : List ((Nat × Nat) × Int64 × Nat) := [((1, 84), (-1), 280), ((2, 38), (-1), 315), ((16, 314), 6148914691236517205, 323), ((16, 316), 3689348814741910323, 324), ((16, 318), 1085102592571150095, 325), ((0, 322), (-9223372036854775808), 1301), ((12, 114), 4, 1508), ((12, 186), 97, 1532), ((12, 188), 106, 1533), ((12, 172), 49, 1570), ((12, 174), 57, 1571), ((12, 232), 9, 1642), ((12, 318), 5, 1658), ((12, 240), 2, 1667), ((12, 265), 7, 1700), ((12, 267), 8, 1701), ((12, 358), 3, 1818), ((12, 363), 31, 1847), ((12, 414), (-9223372036854775808), 1918), ((13, 151), 4294967295, 1931)]
def z_cS0 : List ((Nat × Nat) × (Nat × Nat × List (Nat × Nat)) × (MethodName × String × String) × List Nat) := [((1, 50), (0, 2, [(0, 7)]), (⟨"java/util/Arrays", "fill", "([II)V"⟩, "", ""), [245, 246, 115]),
  ((1, 102), (0, 4, [(0, 20)]), (⟨"java/util/Arrays", "fill", "([JIIJ)V"⟩, "", ""), [299, 300, 115]),
  ((14, 13), (0, 3, [(0, 21)]), (⟨"java/util/Arrays", "rangeCheck", "(III)V"⟩, "", ""), [302, 303, 115]),
  ((2, 54), (0, 1, [(0, 25)]), (⟨"java/lang/Long", "bitCount", "(J)I"⟩, "", ""), [320, 321, 118]),
  ((2, 86), (0, 1, [(0, 31)]), (⟨"java/lang/Integer", "bitCount", "(I)I"⟩, "", ""), [405, 406, 119]),
  ((0, 148), (0, 1, [(0, 58)]), (⟨"DoorBench", "isShelf", "(I)Z"⟩, "", ""), [578, 579, 112]),
  ((0, 155), (0, 1, [(0, 31)]), (⟨"java/lang/Integer", "bitCount", "(I)I"⟩, "", ""), [585, 406, 119]),
  ((3, 66), (0, 2, [(0, 7)]), (⟨"java/util/Arrays", "fill", "([II)V"⟩, "", ""), [594, 246, 115]),
  ((0, 172), (0, 1, [(0, 64)]), (⟨"DoorBench", "isEither", "(I)Z"⟩, "", ""), [603, 604, 112]),
  ((3, 72), (0, 1, [(0, 31)]), (⟨"java/lang/Integer", "bitCount", "(I)I"⟩, "", ""), [618, 406, 119]),
  ((3, 78), (0, 2, [(0, 71)]), (⟨"java/lang/Math", "min", "(II)I"⟩, "", ""), [631, 632, 121]),
  ((3, 84), (0, 1, [(0, 72)]), (⟨"java/lang/Integer", "numberOfTrailingZeros", "(I)I"⟩, "", ""), [634, 635, 119]),
  ((3, 87), (0, 2, [(0, 73)]), (⟨"java/lang/Math", "max", "(II)I"⟩, "", ""), [638, 639, 121]),
  ((7, 19), (0, 1, [(0, 96)]), (⟨"DoorBench$Agenda", "both", "(I)I"⟩, "", ""), [817, 818, 116]),
  ((8, 17), (0, 2, [(0, 73)]), (⟨"java/lang/Math", "max", "(II)I"⟩, "", ""), [844, 639, 121]),
  ((6, 19), (0, 1, [(0, 96)]), (⟨"DoorBench$Agenda", "both", "(I)I"⟩, "", ""), [849, 818, 116]),
  ((3, 136), (5, 2, [(0, 107)]), (⟨"DoorBench", "choose", "(II)I"⟩, "", "DoorBench"), [867, 112]),
  ((4, 77), (0, 1, [(0, 31)]), (⟨"java/lang/Integer", "bitCount", "(I)I"⟩, "", ""), [961, 406, 119]),
  ((4, 95), (0, 2, [(0, 7)]), (⟨"java/util/Arrays", "fill", "([II)V"⟩, "", ""), [979, 246, 115]),
  ((4, 125), (5, 2, [(0, 107)]), (⟨"DoorBench", "choose", "(II)I"⟩, "", "DoorBench"), [867, 112]),
  ((2, 116), (0, 1, [(0, 152)]), (⟨"java/lang/Long", "numberOfTrailingZeros", "(J)I"⟩, "", ""), [1115, 1116, 118]),
  ((16, 311), (0, 1, [(0, 72)]), (⟨"java/lang/Integer", "numberOfTrailingZeros", "(I)I"⟩, "", ""), [1118, 635, 119]),
  ((0, 307), (0, 4, [(0, 20)]), (⟨"java/util/Arrays", "fill", "([JIIJ)V"⟩, "", ""), [1285, 300, 115]),
  ((0, 316), (0, 2, [(0, 181)]), (⟨"DoorBench", "lowestBits", "(IJ)J"⟩, "", ""), [1294, 1295, 112]),
  ((0, 328), (8, 5, []), (⟨"java/lang/System", "arraycopy", "(Ljava/lang/Object;ILjava/lang/Object;II)V"⟩, "", ""), [1310, 1312, 1311, 130]),
  ((12, 116), (0, 3, [(0, 191)]), (⟨"DoorBenchModel", "within", "(JJJ)Z"⟩, "", ""), [1509, 1510, 114]),
  ((12, 193), (0, 1, [(0, 209)]), (⟨"DoorBenchModel", "countOf", "(I)I"⟩, "", ""), [1584, 1585, 114]),
  ((12, 216), (0, 3, [(0, 218)]), (⟨"DoorBenchModel", "hasThese", "(III)Z"⟩, "", ""), [1619, 1620, 114]),
  ((12, 237), (0, 1, [(0, 227)]), (⟨"DoorBenchModel", "isShelf", "(I)Z"⟩, "", ""), [1655, 1656, 114]),
  ((12, 390), (0, 1, [(0, 281)]), (⟨"DoorBenchModel", "above", "(I)I"⟩, "", ""), [1876, 1877, 114]),
  ((12, 408), (0, 2, [(0, 290)]), (⟨"DoorBenchModel", "asSort", "(IJ)J"⟩, "", ""), [1911, 1912, 114])]
def z_cS : List ((Nat × Nat) × (Nat × Nat × List (Nat × Nat)) × (MethodName × String × String) × List Nat) := z_cS0
def z_cV0 : List ((Nat × Nat) × (Nat × Nat × List (Nat × Nat)) × (MethodName × String × String) × List Nat) := [((13, 13), (1, 2, [(0, 3)]), (⟨"DoorBench", "feed", "(II)I"⟩, "", ""), [229, 230, 231, 112]),
  ((0, 51), (1, 2, [(1, 4)]), (⟨"DoorBench$Tape", "take", "(II)Z"⟩, "", ""), [233, 234, 235, 113]),
  ((13, 18), (1, 0, [(0, 5)]), (⟨"DoorBench", "agenda", "()I"⟩, "", ""), [237, 238, 239, 112]),
  ((0, 62), (1, 0, [(1, 6)]), (⟨"DoorBench$Tape", "findFault", "()I"⟩, "", ""), [241, 242, 243, 113]),
  ((1, 56), (1, 1, [(1, 8)]), (⟨"DoorBench$Tape", "expect", "(I)V"⟩, "", ""), [248, 250, 0, 113]),
  ((1, 60), (1, 0, [(1, 9)]), (⟨"DoorBench$Tape", "nameQuestions", "()V"⟩, "", ""), [252, 254, 1, 113]),
  ((1, 66), (1, 0, [(1, 10)]), (⟨"DoorBench$Tape", "fail", "()V"⟩, "", ""), [256, 258, 2, 113]),
  ((1, 63), (1, 0, [(1, 11)]), (⟨"DoorBench$Tape", "anotherPart", "()V"⟩, "", ""), [260, 262, 3, 113]),
  ((1, 69), (1, 1, [(1, 12)]), (⟨"DoorBench$Tape", "passes", "(I)Z"⟩, "", ""), [264, 266, 4, 113]),
  ((1, 73), (1, 0, [(1, 13)]), (⟨"DoorBench$Tape", "someQuestions", "()I"⟩, "", ""), [268, 270, 5, 113]),
  ((1, 81), (1, 0, [(1, 14)]), (⟨"DoorBench$Tape", "questionHere", "()I"⟩, "", ""), [272, 274, 6, 113]),
  ((1, 77), (1, 1, [(1, 15)]), (⟨"DoorBench$Tape", "tie", "(I)J"⟩, "", ""), [276, 278, 7, 113]),
  ((1, 86), (1, 1, [(1, 16)]), (⟨"DoorBench$Tape", "either", "(I)J"⟩, "", ""), [281, 283, 8, 113]),
  ((1, 89), (1, 1, [(1, 17)]), (⟨"DoorBench$Tape", "simple", "(I)J"⟩, "", ""), [285, 287, 9, 113]),
  ((1, 92), (1, 1, [(1, 18)]), (⟨"DoorBench$Tape", "yesSets", "(I)J"⟩, "", ""), [289, 291, 10, 113]),
  ((1, 95), (1, 2, [(1, 19)]), (⟨"DoorBench$Tape", "atLeast", "(II)J"⟩, "", ""), [295, 297, 11, 113]),
  ((0, 66), (1, 0, [(1, 22)]), (⟨"DoorBench$Tape", "told", "()LDoorBench$Agenda;"⟩, "", ""), [305, 306, 307, 113]),
  ((2, 50), (1, 2, [(2, 24)]), (⟨"DoorBench$Agenda", "keptWithout", "(II)J"⟩, "", ""), [316, 318, 12, 116]),
  ((2, 69), (1, 0, [(2, 26)]), (⟨"DoorBench$Agenda", "listSets", "()V"⟩, "", ""), [326, 328, 13, 116]),
  ((2, 72), (1, 1, [(2, 27)]), (⟨"DoorBench$Agenda", "isLawful", "(I)Z"⟩, "", ""), [330, 331, 332, 116]),
  ((2, 76), (1, 1, [(2, 28)]), (⟨"DoorBench$Agenda", "hasSet", "(I)Z"⟩, "", ""), [334, 335, 336, 116]),
  ((0, 70), (1, 1, [(0, 29)]), (⟨"DoorBench", "found", "(LDoorBench$Agenda;)I"⟩, "", ""), [397, 399, 14, 112]),
  ((0, 79), (1, 0, [(2, 30)]), (⟨"DoorBench$Agenda", "impossibleTies", "()I"⟩, "", ""), [401, 402, 403, 116]),
  ((2, 100), (1, 1, [(2, 32)]), (⟨"DoorBench$Agenda", "noneKeeps", "(I)Z"⟩, "", ""), [411, 413, 15, 116]),
  ((13, 23), (1, 2, [(0, 34)]), (⟨"DoorBench", "of", "(II)I"⟩, "", ""), [478, 479, 480, 112]),
  ((0, 85), (1, 1, [(0, 35)]), (⟨"DoorBench", "benchOf", "(I)LDoorBench$Bench;"⟩, "", ""), [482, 484, 16, 112]),
  ((13, 27), (1, 2, [(0, 36)]), (⟨"DoorBench", "lawful", "(II)I"⟩, "", ""), [486, 487, 488, 112]),
  ((0, 108), (1, 1, [(0, 37)]), (⟨"DoorBench", "agendaOf", "(I)LDoorBench$Agenda;"⟩, "", ""), [490, 492, 17, 112]),
  ((13, 31), (1, 2, [(0, 38)]), (⟨"DoorBench", "broken", "(II)I"⟩, "", ""), [494, 495, 496, 112]),
  ((0, 112), (1, 1, [(2, 28)]), (⟨"DoorBench$Agenda", "hasSet", "(I)Z"⟩, "", ""), [498, 335, 336, 116]),
  ((0, 116), (1, 1, [(2, 39)]), (⟨"DoorBench$Agenda", "answersOf", "(I)I"⟩, "", ""), [499, 500, 501, 116]),
  ((0, 120), (1, 1, [(2, 40)]), (⟨"DoorBench$Agenda", "tiesBrokenBy", "(I)I"⟩, "", ""), [503, 504, 505, 116]),
  ((2, 94), (1, 2, [(2, 41)]), (⟨"DoorBench$Agenda", "setsHaving", "(II)J"⟩, "", ""), [507, 509, 18, 116]),
  ((13, 35), (1, 3, [(0, 42)]), (⟨"DoorBench", "stands", "(III)I"⟩, "", ""), [512, 513, 514, 112]),
  ((0, 123), (1, 2, [(2, 43)]), (⟨"DoorBench$Agenda", "canBeTold", "(II)Z"⟩, "", ""), [516, 517, 518, 116]),
  ((0, 126), (1, 1, [(2, 44)]), (⟨"DoorBench$Agenda", "canStand", "(I)Z"⟩, "", ""), [520, 521, 522, 116]),
  ((2, 83), (1, 2, [(2, 45)]), (⟨"DoorBench$Agenda", "having", "(II)J"⟩, "", ""), [524, 526, 19, 116]),
  ((2, 79), (1, 1, [(2, 46)]), (⟨"DoorBench$Agenda", "wholeSpan", "(I)J"⟩, "", ""), [528, 529, 530, 116]),
  ((13, 40), (1, 4, [(0, 47)]), (⟨"DoorBench", "forced", "(IIII)I"⟩, "", ""), [532, 533, 534, 112]),
  ((0, 129), (1, 1, [(2, 48)]), (⟨"DoorBench$Agenda", "hasQuestion", "(I)Z"⟩, "", ""), [536, 537, 538, 116]),
  ((0, 132), (1, 1, [(2, 49)]), (⟨"DoorBench$Agenda", "implied", "(I)I"⟩, "", ""), [540, 541, 542, 116]),
  ((13, 45), (1, 3, [(0, 50)]), (⟨"DoorBench", "why", "(III)I"⟩, "", ""), [544, 545, 546, 112]),
  ((0, 135), (1, 1, [(2, 51)]), (⟨"DoorBench$Agenda", "smallestFallen", "(I)I"⟩, "", ""), [548, 549, 550, 116]),
  ((2, 91), (1, 1, [(2, 44)]), (⟨"DoorBench$Agenda", "canStand", "(I)Z"⟩, "", ""), [552, 521, 522, 116]),
  ((13, 49), (1, 4, [(0, 52)]), (⟨"DoorBench", "judge", "(IIII)I"⟩, "", ""), [553, 554, 555, 112]),
  ((0, 138), (1, 3, [(3, 53)]), (⟨"DoorBench$Bench", "seat", "(III)V"⟩, "", ""), [557, 558, 559, 120]),
  ((3, 59), (1, 3, [(3, 54)]), (⟨"DoorBench$Bench", "alter", "(III)V"⟩, "", ""), [561, 562, 563, 120]),
  ((13, 53), (1, 4, [(0, 55)]), (⟨"DoorBench", "change", "(IIII)I"⟩, "", ""), [565, 566, 567, 112]),
  ((0, 142), (1, 1, [(3, 56)]), (⟨"DoorBench$Bench", "hasJudge", "(I)Z"⟩, "", ""), [569, 570, 571, 120]),
  ((0, 145), (1, 3, [(3, 54)]), (⟨"DoorBench$Bench", "alter", "(III)V"⟩, "", ""), [573, 562, 563, 120]),
  ((13, 57), (1, 4, [(0, 57)]), (⟨"DoorBench", "read", "(IIII)I"⟩, "", ""), [574, 575, 576, 112]),
  ((0, 151), (1, 3, [(0, 59)]), (⟨"DoorBench", "answersFrom", "(III)I"⟩, "", ""), [581, 583, 20, 112]),
  ((13, 61), (1, 1, [(0, 60)]), (⟨"DoorBench", "clear", "(I)I"⟩, "", ""), [586, 587, 588, 112]),
  ((0, 160), (1, 0, [(3, 61)]), (⟨"DoorBench$Bench", "dismiss", "()V"⟩, "", ""), [590, 591, 592, 120]),
  ((13, 66), (1, 3, [(0, 62)]), (⟨"DoorBench", "ofJudge", "(III)I"⟩, "", ""), [595, 596, 597, 112]),
  ((13, 70), (1, 3, [(0, 63)]), (⟨"DoorBench", "votes", "(III)I"⟩, "", ""), [599, 600, 601, 112]),
  ((0, 175), (1, 2, [(3, 65)]), (⟨"DoorBench$Bench", "weightOn", "(I[I)I"⟩, "", ""), [606, 607, 608, 120]),
  ((13, 74), (1, 2, [(0, 66)]), (⟨"DoorBench", "far", "(II)I"⟩, "", ""), [610, 611, 612, 112]),
  ((0, 179), (1, 1, [(3, 67)]), (⟨"DoorBench$Bench", "distance", "(I)I"⟩, "", ""), [614, 615, 616, 120]),
  ((13, 78), (1, 2, [(0, 68)]), (⟨"DoorBench", "nearest", "(II)I"⟩, "", ""), [619, 620, 621, 112])]
def z_cV1 : List ((Nat × Nat) × (Nat × Nat × List (Nat × Nat)) × (MethodName × String × String) × List Nat) := [((0, 182), (1, 1, [(3, 69)]), (⟨"DoorBench$Bench", "nearestAt", "(I)I"⟩, "", ""), [623, 624, 625, 120]),
  ((3, 98), (1, 0, [(3, 70)]), (⟨"DoorBench$Bench", "sumLeans", "()V"⟩, "", ""), [627, 629, 21, 120]),
  ((3, 104), (1, 1, [(3, 74)]), (⟨"DoorBench$Bench", "leanOf", "(I)I"⟩, "", ""), [641, 643, 22, 120]),
  ((13, 82), (1, 3, [(0, 75)]), (⟨"DoorBench", "way", "(III)I"⟩, "", ""), [645, 646, 647, 112]),
  ((0, 191), (1, 3, [(0, 76)]), (⟨"DoorBench", "bodyOf", "(III)LDoorBench$Way;"⟩, "", ""), [651, 653, 23, 112]),
  ((13, 86), (1, 2, [(0, 85)]), (⟨"DoorBench", "ofWay", "(II)I"⟩, "", ""), [769, 770, 771, 112]),
  ((0, 221), (1, 1, [(0, 86)]), (⟨"DoorBench", "bodyAt", "(I)LDoorBench$Way;"⟩, "", ""), [773, 775, 24, 112]),
  ((13, 90), (1, 3, [(0, 87)]), (⟨"DoorBench", "outcome", "(III)I"⟩, "", ""), [777, 778, 779, 112]),
  ((0, 234), (2, 1, [(4, 103), (10, 88), (7, 95), (5, 99), (11, 100), (8, 101), (6, 102), (9, 88)]), (⟨"DoorBench$Way", "decide", "(LDoorBench$Bench;)I"⟩, "DoorBench$Way", ""), [781, 784, 782, 783, 782, 122, 785, 786, 127, 814, 815, 125, 831, 832, 123, 835, 836, 129, 840, 841, 126, 846, 847, 124, 852, 786, 127]),
  ((9, 13), (1, 1, [(3, 89)]), (⟨"DoorBench$Bench", "orderFrom", "(I)V"⟩, "", ""), [788, 789, 790, 120]),
  ((9, 19), (2, 1, [(9, 91), (10, 90)]), (⟨"DoorBench$Turns", "openYes", "(LDoorBench$Bench;)I"⟩, "DoorBench$Turns", ""), [792, 795, 793, 794, 793, 127, 796, 797, 128]),
  ((10, 13), (1, 1, [(3, 56)]), (⟨"DoorBench$Bench", "hasJudge", "(I)Z"⟩, "", ""), [799, 570, 571, 120]),
  ((9, 23), (1, 1, [(3, 92)]), (⟨"DoorBench$Bench", "inTurns", "(I)I"⟩, "", ""), [801, 802, 803, 120]),
  ((3, 107), (1, 1, [(2, 46)]), (⟨"DoorBench$Agenda", "wholeSpan", "(I)J"⟩, "", ""), [805, 529, 530, 116]),
  ((3, 111), (1, 2, [(3, 93)]), (⟨"DoorBench$Bench", "isYesInTurn", "(IZ)Z"⟩, "", ""), [806, 808, 25, 120]),
  ((3, 115), (1, 3, [(2, 94)]), (⟨"DoorBench$Agenda", "answering", "(IZI)J"⟩, "", ""), [810, 811, 812, 116]),
  ((7, 23), (1, 0, [(3, 97)]), (⟨"DoorBench$Bench", "byHeads", "()I"⟩, "", ""), [820, 821, 822, 120]),
  ((7, 27), (1, 1, [(3, 98)]), (⟨"DoorBench$Bench", "nearestWith", "(I)I"⟩, "", ""), [824, 825, 826, 120]),
  ((3, 90), (1, 0, [(3, 97)]), (⟨"DoorBench$Bench", "byHeads", "()I"⟩, "", ""), [828, 821, 822, 120]),
  ((3, 94), (1, 1, [(2, 27)]), (⟨"DoorBench$Agenda", "isLawful", "(I)Z"⟩, "", ""), [829, 331, 332, 116]),
  ((7, 30), (1, 1, [(2, 39)]), (⟨"DoorBench$Agenda", "answersOf", "(I)I"⟩, "", ""), [830, 500, 501, 116]),
  ((5, 7), (1, 0, [(3, 97)]), (⟨"DoorBench$Bench", "byHeads", "()I"⟩, "", ""), [834, 821, 822, 120]),
  ((11, 15), (1, 1, [(3, 56)]), (⟨"DoorBench$Bench", "hasJudge", "(I)Z"⟩, "", ""), [838, 570, 571, 120]),
  ((11, 32), (1, 1, [(2, 49)]), (⟨"DoorBench$Agenda", "implied", "(I)I"⟩, "", ""), [839, 541, 542, 116]),
  ((8, 13), (1, 1, [(3, 98)]), (⟨"DoorBench$Bench", "nearestWith", "(I)I"⟩, "", ""), [843, 825, 826, 120]),
  ((8, 23), (1, 1, [(2, 39)]), (⟨"DoorBench$Agenda", "answersOf", "(I)I"⟩, "", ""), [845, 500, 501, 116]),
  ((6, 23), (1, 0, [(3, 97)]), (⟨"DoorBench$Bench", "byHeads", "()I"⟩, "", ""), [850, 821, 822, 120]),
  ((6, 27), (1, 1, [(2, 49)]), (⟨"DoorBench$Agenda", "implied", "(I)I"⟩, "", ""), [851, 541, 542, 116]),
  ((13, 94), (1, 2, [(0, 104)]), (⟨"DoorBench", "benches", "(II)I"⟩, "", ""), [854, 855, 856, 112]),
  ((0, 241), (1, 2, [(0, 105)]), (⟨"DoorBench", "refusalOfAll", "(II)I"⟩, "", ""), [858, 860, 26, 112]),
  ((0, 245), (1, 1, [(3, 106)]), (⟨"DoorBench$Bench", "manyOf", "(I)I"⟩, "", ""), [862, 863, 864, 120]),
  ((13, 98), (1, 4, [(0, 108)]), (⟨"DoorBench", "unlawful", "(IIII)I"⟩, "", ""), [871, 872, 873, 112]),
  ((0, 248), (2, 3, [(4, 109), (10, 109), (7, 109), (5, 109), (11, 109), (8, 109), (6, 109), (9, 109)]), (⟨"DoorBench$Way", "unlawfulOnes", "(LDoorBench$Bench;IZ)I"⟩, "DoorBench$Way", ""), [875, 878, 876, 877, 876, 122, 879, 876, 122, 880, 876, 122, 881, 876, 122, 882, 876, 122, 883, 876, 122, 884, 876, 122, 885, 876, 122]),
  ((4, 45), (1, 1, [(3, 110)]), (⟨"DoorBench$Bench", "sitFirst", "(I)I"⟩, "", ""), [887, 888, 889, 120]),
  ((3, 139), (1, 0, [(3, 61)]), (⟨"DoorBench$Bench", "dismiss", "()V"⟩, "", ""), [891, 591, 592, 120]),
  ((3, 142), (1, 3, [(3, 53)]), (⟨"DoorBench$Bench", "seat", "(III)V"⟩, "", ""), [892, 558, 559, 120]),
  ((3, 145), (1, 1, [(3, 106)]), (⟨"DoorBench$Bench", "manyOf", "(I)I"⟩, "", ""), [893, 863, 864, 120]),
  ((4, 54), (2, 1, [(4, 103), (10, 88), (7, 95), (5, 99), (11, 100), (8, 101), (6, 102), (9, 88)]), (⟨"DoorBench$Way", "decide", "(LDoorBench$Bench;)I"⟩, "DoorBench$Way", ""), [894, 784, 782, 783, 782, 122, 785, 786, 127, 814, 815, 125, 831, 832, 123, 835, 836, 129, 840, 841, 126, 846, 847, 124, 852, 786, 127]),
  ((4, 58), (1, 1, [(2, 44)]), (⟨"DoorBench$Agenda", "canStand", "(I)Z"⟩, "", ""), [895, 521, 522, 116]),
  ((4, 64), (1, 0, [(3, 111)]), (⟨"DoorBench$Bench", "toldNumbers", "()I"⟩, "", ""), [896, 897, 898, 120]),
  ((4, 68), (1, 0, [(3, 112)]), (⟨"DoorBench$Bench", "sitNext", "()V"⟩, "", ""), [900, 901, 902, 120]),
  ((3, 148), (1, 0, [(3, 113)]), (⟨"DoorBench$Bench", "settle", "()V"⟩, "", ""), [904, 905, 906, 120]),
  ((13, 102), (1, 5, [(0, 114)]), (⟨"DoorBench", "unlike", "(IIIII)I"⟩, "", ""), [908, 909, 910, 112]),
  ((0, 252), (2, 4, [(4, 115), (10, 115), (7, 115), (5, 115), (11, 115), (8, 115), (6, 115), (9, 115)]), (⟨"DoorBench$Way", "unlikeOnes", "(LDoorBench$Way;LDoorBench$Bench;IZ)I"⟩, "DoorBench$Way", ""), [912, 915, 913, 914, 913, 122, 916, 913, 122, 917, 913, 122, 918, 913, 122, 919, 913, 122, 920, 913, 122, 921, 913, 122, 922, 913, 122]),
  ((13, 107), (1, 4, [(0, 116)]), (⟨"DoorBench", "sway", "(IIII)I"⟩, "", ""), [924, 925, 926, 112]),
  ((0, 256), (2, 3, [(4, 117), (10, 117), (7, 117), (5, 117), (11, 117), (8, 117), (6, 117), (9, 117)]), (⟨"DoorBench$Way", "yesOnes", "(LDoorBench$Bench;II)I"⟩, "DoorBench$Way", ""), [928, 931, 929, 930, 929, 122, 932, 929, 122, 933, 929, 122, 934, 929, 122, 935, 929, 122, 936, 929, 122, 937, 929, 122, 938, 929, 122]),
  ((13, 111), (1, 3, [(0, 118)]), (⟨"DoorBench", "twist", "(III)I"⟩, "", ""), [940, 941, 942, 112]),
  ((0, 260), (1, 1, [(3, 119)]), (⟨"DoorBench$Bench", "isSilent", "(I)Z"⟩, "", ""), [944, 945, 946, 120]),
  ((0, 263), (2, 2, [(4, 120), (10, 120), (7, 120), (5, 120), (11, 120), (8, 120), (6, 120), (9, 120)]), (⟨"DoorBench$Way", "bestTwist", "(LDoorBench$Bench;I)I"⟩, "DoorBench$Way", ""), [948, 951, 949, 950, 949, 122, 952, 949, 122, 953, 949, 122, 954, 949, 122, 955, 949, 122, 956, 949, 122, 957, 949, 122, 958, 949, 122]),
  ((4, 74), (1, 1, [(2, 39)]), (⟨"DoorBench$Agenda", "answersOf", "(I)I"⟩, "", ""), [960, 500, 501, 116]),
  ((4, 91), (1, 3, [(3, 54)]), (⟨"DoorBench$Bench", "alter", "(III)V"⟩, "", ""), [962, 562, 563, 120]),
  ((13, 115), (1, 3, [(0, 121)]), (⟨"DoorBench", "twisted", "(III)I"⟩, "", ""), [963, 964, 965, 112]),
  ((0, 270), (2, 3, [(4, 122), (10, 122), (7, 122), (5, 122), (11, 122), (8, 122), (6, 122), (9, 122)]), (⟨"DoorBench$Way", "twistedOnes", "(LDoorBench$Bench;I[I)I"⟩, "DoorBench$Way", ""), [967, 970, 968, 969, 968, 122, 971, 968, 122, 972, 968, 122, 973, 968, 122, 974, 968, 122, 975, 968, 122, 976, 968, 122, 977, 968, 122]),
  ((4, 101), (1, 0, [(3, 123)]), (⟨"DoorBench$Bench", "rank", "()I"⟩, "", ""), [980, 981, 982, 120]),
  ((4, 104), (1, 3, [(4, 124)]), (⟨"DoorBench$Way", "recall", "(LDoorBench$Bench;I[I)I"⟩, "", ""), [984, 986, 27, 122]),
  ((4, 128), (2, 2, [(4, 127), (10, 125), (7, 127), (5, 127), (11, 126), (8, 127), (6, 127), (9, 127)]), (⟨"DoorBench$Way", "placeOf", "(LDoorBench$Bench;I)I"⟩, "DoorBench$Way", ""), [988, 991, 989, 990, 989, 122, 992, 993, 128, 995, 989, 122, 996, 989, 122, 997, 998, 129, 1000, 989, 122, 1001, 989, 122, 1002, 989, 122]),
  ((4, 132), (1, 0, [(3, 113)]), (⟨"DoorBench$Bench", "settle", "()V"⟩, "", ""), [1004, 905, 906, 120]),
  ((4, 111), (1, 4, [(4, 128)]), (⟨"DoorBench$Way", "twists", "(LDoorBench$Bench;II[I)Z"⟩, "", ""), [1005, 1007, 28, 122]),
  ((4, 118), (1, 1, [(3, 129)]), (⟨"DoorBench$Bench", "rankOfOthers", "(I)I"⟩, "", ""), [1009, 1010, 1011, 120]),
  ((3, 151), (1, 2, [(3, 130)]), (⟨"DoorBench$Bench", "otherThan", "(II)I"⟩, "", ""), [1013, 1014, 1015, 120])]
def z_cV2 : List ((Nat × Nat) × (Nat × Nat × List (Nat × Nat)) × (MethodName × String × String) × List Nat) := [((4, 121), (1, 2, [(3, 130)]), (⟨"DoorBench$Bench", "otherThan", "(II)I"⟩, "", ""), [1017, 1014, 1015, 120]),
  ((13, 119), (1, 4, [(0, 131)]), (⟨"DoorBench", "breach", "(IIII)I"⟩, "", ""), [1019, 1020, 1021, 112]),
  ((0, 274), (1, 2, [(0, 132)]), (⟨"DoorBench", "refusalOfRows", "(II)I"⟩, "", ""), [1023, 1025, 29, 112]),
  ((0, 277), (2, 3, [(4, 133), (10, 133), (7, 133), (5, 133), (11, 133), (8, 133), (6, 133), (9, 133)]), (⟨"DoorBench$Way", "decideRows", "(LDoorBench$Bench;I[I)V"⟩, "DoorBench$Way", ""), [1027, 1030, 1028, 1029, 1028, 122, 1031, 1028, 122, 1032, 1028, 122, 1033, 1028, 122, 1034, 1028, 122, 1035, 1028, 122, 1036, 1028, 122, 1037, 1028, 122]),
  ((4, 135), (1, 0, [(3, 134)]), (⟨"DoorBench$Bench", "manyRows", "()I"⟩, "", ""), [1039, 1040, 1041, 120]),
  ((4, 138), (1, 1, [(3, 135)]), (⟨"DoorBench$Bench", "sitRow", "(I)V"⟩, "", ""), [1043, 1044, 1045, 120]),
  ((3, 157), (1, 1, [(3, 136)]), (⟨"DoorBench$Bench", "numberAll", "(I)V"⟩, "", ""), [1047, 1049, 30, 120]),
  ((3, 154), (1, 2, [(3, 137)]), (⟨"DoorBench$Bench", "numberIn", "(II)I"⟩, "", ""), [1051, 1053, 31, 120]),
  ((0, 281), (1, 2, [(3, 138)]), (⟨"DoorBench$Bench", "breachOf", "(I[I)I"⟩, "", ""), [1055, 1056, 1057, 120]),
  ((3, 164), (1, 0, [(3, 134)]), (⟨"DoorBench$Bench", "manyRows", "()I"⟩, "", ""), [1059, 1040, 1041, 120]),
  ((3, 167), (1, 2, [(3, 139)]), (⟨"DoorBench$Bench", "firstUnalike", "([II)I"⟩, "", ""), [1060, 1062, 32, 120]),
  ((3, 183), (1, 1, [(3, 140)]), (⟨"DoorBench$Bench", "rowInOrder", "(I)I"⟩, "", ""), [1064, 1066, 33, 120]),
  ((3, 171), (1, 2, [(3, 141)]), (⟨"DoorBench$Bench", "firstNotOwn", "([II)I"⟩, "", ""), [1068, 1070, 34, 120]),
  ((3, 186), (1, 1, [(3, 142)]), (⟨"DoorBench$Bench", "whoSaysYes", "(I)I"⟩, "", ""), [1072, 1074, 35, 120]),
  ((3, 174), (1, 2, [(3, 143)]), (⟨"DoorBench$Bench", "firstOtherMind", "([II)I"⟩, "", ""), [1076, 1078, 36, 120]),
  ((3, 189), (1, 1, [(2, 39)]), (⟨"DoorBench$Agenda", "answersOf", "(I)I"⟩, "", ""), [1080, 500, 501, 116]),
  ((3, 177), (1, 2, [(3, 144)]), (⟨"DoorBench$Bench", "firstUnlawful", "([II)I"⟩, "", ""), [1081, 1083, 37, 120]),
  ((3, 192), (1, 1, [(2, 44)]), (⟨"DoorBench$Agenda", "canStand", "(I)Z"⟩, "", ""), [1085, 521, 522, 116]),
  ((3, 180), (1, 2, [(3, 145)]), (⟨"DoorBench$Bench", "firstSomebody", "([II)I"⟩, "", ""), [1086, 1088, 38, 120]),
  ((13, 123), (1, 3, [(0, 146)]), (⟨"DoorBench", "keeper", "(III)I"⟩, "", ""), [1090, 1091, 1092, 112]),
  ((0, 284), (1, 2, [(3, 147)]), (⟨"DoorBench$Bench", "keepsAll", "(I[I)Z"⟩, "", ""), [1094, 1095, 1096, 120]),
  ((3, 160), (1, 2, [(3, 138)]), (⟨"DoorBench$Bench", "breachOf", "(I[I)I"⟩, "", ""), [1098, 1056, 1057, 120]),
  ((13, 127), (1, 3, [(0, 148)]), (⟨"DoorBench", "mend", "(III)I"⟩, "", ""), [1099, 1100, 1101, 112]),
  ((0, 288), (1, 2, [(2, 149)]), (⟨"DoorBench$Agenda", "mendBy", "(II)I"⟩, "", ""), [1103, 1104, 1105, 116]),
  ((2, 103), (1, 2, [(2, 150)]), (⟨"DoorBench$Agenda", "isSafeWithout", "(II)Z"⟩, "", ""), [1107, 1109, 39, 116]),
  ((2, 107), (1, 1, [(2, 151)]), (⟨"DoorBench$Agenda", "listFew", "(I)I"⟩, "", ""), [1111, 1113, 40, 116]),
  ((2, 110), (1, 1, [(2, 153)]), (⟨"DoorBench$Agenda", "foursStand", "(I)Z"⟩, "", ""), [1119, 1121, 41, 116]),
  ((2, 119), (1, 3, [(2, 154)]), (⟨"DoorBench$Agenda", "someOfFew", "(III)Z"⟩, "", ""), [1123, 1125, 42, 116]),
  ((2, 113), (1, 1, [(2, 155)]), (⟨"DoorBench$Agenda", "threesStand", "(I)Z"⟩, "", ""), [1127, 1129, 43, 116]),
  ((13, 131), (1, 3, [(0, 156)]), (⟨"DoorBench", "orders", "(III)I"⟩, "", ""), [1131, 1132, 1133, 112]),
  ((0, 291), (1, 2, [(3, 157)]), (⟨"DoorBench$Bench", "ordersFor", "(IZ)I"⟩, "", ""), [1135, 1136, 1137, 120]),
  ((3, 119), (1, 1, [(3, 89)]), (⟨"DoorBench$Bench", "orderFrom", "(I)V"⟩, "", ""), [1139, 789, 790, 120]),
  ((3, 123), (1, 1, [(3, 92)]), (⟨"DoorBench$Bench", "inTurns", "(I)I"⟩, "", ""), [1140, 802, 803, 120]),
  ((3, 126), (1, 0, [(3, 158)]), (⟨"DoorBench$Bench", "orderDigits", "()I"⟩, "", ""), [1141, 1143, 44, 120]),
  ((3, 129), (1, 0, [(3, 159)]), (⟨"DoorBench$Bench", "nextOrder", "()V"⟩, "", ""), [1145, 1147, 45, 120]),
  ((3, 132), (1, 2, [(3, 160)]), (⟨"DoorBench$Bench", "swapOrder", "(II)V"⟩, "", ""), [1149, 1151, 46, 120]),
  ((13, 135), (1, 3, [(0, 161)]), (⟨"DoorBench", "act", "(III)I"⟩, "", ""), [1153, 1154, 1155, 112]),
  ((0, 295), (2, 1, [(4, 165), (10, 165), (7, 162), (5, 162), (11, 165), (8, 164), (6, 162), (9, 165)]), (⟨"DoorBench$Way", "counts", "(I)I"⟩, "DoorBench$Way", ""), [1157, 1160, 1158, 1159, 1158, 122, 1161, 1158, 122, 1162, 1163, 123, 1174, 1163, 123, 1175, 1158, 122, 1176, 1177, 126, 1183, 1163, 123, 1184, 1158, 122]),
  ((5, 13), (2, 1, [(7, 163), (5, 163), (6, 163)]), (⟨"DoorBench$Heads", "note", "(I)V"⟩, "DoorBench$Way", ""), [1165, 1166, 1171, 1168, 1171, 122, 1169, 1171, 122, 1170, 1171, 122]),
  ((8, 28), (2, 1, [(8, 163)]), (⟨"DoorBench$Near", "note", "(I)V"⟩, "DoorBench$Way", ""), [1179, 1180, 1171, 1181, 1171, 122]),
  ((4, 31), (2, 1, [(10, 163), (7, 163), (5, 163), (11, 163), (8, 163), (6, 163), (9, 163), (4, 163)]), (⟨"DoorBench$Way", "note", "(I)V"⟩, "DoorBench$Way", ""), [1186, 1934, 1171, 1935, 1171, 122, 1936, 1171, 122, 1937, 1171, 122, 1938, 1171, 122, 1939, 1171, 122, 1940, 1171, 122, 1941, 1171, 122, 1942, 1171, 122]),
  ((0, 298), (2, 1, [(4, 169), (10, 166), (7, 169), (5, 169), (11, 169), (8, 169), (6, 168), (9, 167)]), (⟨"DoorBench$Way", "weighs", "(I)I"⟩, "DoorBench$Way", ""), [1187, 1190, 1188, 1189, 1188, 122, 1191, 1192, 128, 1205, 1188, 122, 1206, 1188, 122, 1207, 1188, 122, 1208, 1188, 122, 1209, 1210, 124, 1222, 1198, 127]),
  ((10, 38), (2, 1, [(10, 163)]), (⟨"DoorBench$Chair", "note", "(I)V"⟩, "DoorBench$Way", ""), [1194, 1195, 1171, 1196, 1171, 122]),
  ((9, 27), (2, 1, [(10, 163), (9, 163)]), (⟨"DoorBench$Turns", "note", "(I)V"⟩, "DoorBench$Way", ""), [1200, 1201, 1171, 1202, 1171, 122, 1203, 1171, 122]),
  ((6, 30), (2, 1, [(6, 163)]), (⟨"DoorBench$Premises", "note", "(I)V"⟩, "DoorBench$Way", ""), [1212, 1213, 1171, 1214, 1171, 122]),
  ((6, 39), (2, 1, [(6, 162)]), (⟨"DoorBench$Premises", "counts", "(I)I"⟩, "DoorBench$Heads", ""), [1218, 1219, 1163, 1221, 1163, 123]),
  ((4, 35), (2, 1, [(4, 165), (10, 165), (7, 162), (5, 162), (11, 165), (8, 164), (6, 162), (9, 165)]), (⟨"DoorBench$Way", "counts", "(I)I"⟩, "DoorBench$Way", ""), [1224, 1160, 1158, 1159, 1158, 122, 1161, 1158, 122, 1162, 1163, 123, 1174, 1163, 123, 1175, 1158, 122, 1176, 1177, 126, 1183, 1163, 123, 1184, 1158, 122]),
  ((0, 301), (2, 1, [(4, 172), (10, 170), (7, 171), (5, 172), (11, 172), (8, 172), (6, 172), (9, 172)]), (⟨"DoorBench$Way", "binds", "(I)I"⟩, "DoorBench$Way", ""), [1225, 1228, 1226, 1227, 1226, 122, 1229, 1230, 128, 1235, 1236, 125, 1243, 1226, 122, 1244, 1226, 122, 1245, 1226, 122, 1246, 1226, 122, 1247, 1226, 122]),
  ((7, 33), (2, 1, [(7, 163)]), (⟨"DoorBench$Ends", "note", "(I)V"⟩, "DoorBench$Way", ""), [1238, 1239, 1171, 1240, 1171, 122]),
  ((0, 304), (2, 1, [(4, 175), (10, 173), (7, 175), (5, 175), (11, 174), (8, 175), (6, 175), (9, 173)]), (⟨"DoorBench$Way", "tells", "(I)I"⟩, "DoorBench$Way", ""), [1249, 1252, 1250, 1251, 1250, 122, 1253, 1254, 127, 1257, 1250, 122, 1258, 1250, 122, 1259, 1260, 129, 1267, 1250, 122, 1268, 1250, 122, 1269, 1254, 127]),
  ((11, 44), (2, 1, [(11, 163)]), (⟨"DoorBench$Leader", "note", "(I)V"⟩, "DoorBench$Way", ""), [1262, 1263, 1171, 1264, 1171, 122]),
  ((4, 39), (2, 1, [(4, 169), (10, 166), (7, 169), (5, 169), (11, 169), (8, 169), (6, 168), (9, 167)]), (⟨"DoorBench$Way", "weighs", "(I)I"⟩, "DoorBench$Way", ""), [1271, 1190, 1188, 1189, 1188, 122, 1191, 1192, 128, 1205, 1188, 122, 1206, 1188, 122, 1207, 1188, 122, 1208, 1188, 122, 1209, 1210, 124, 1222, 1198, 127]),
  ((4, 42), (2, 1, [(4, 172), (10, 170), (7, 171), (5, 172), (11, 172), (8, 172), (6, 172), (9, 172)]), (⟨"DoorBench$Way", "binds", "(I)I"⟩, "DoorBench$Way", ""), [1272, 1228, 1226, 1227, 1226, 122, 1229, 1230, 128, 1235, 1236, 125, 1243, 1226, 122, 1244, 1226, 122, 1245, 1226, 122, 1246, 1226, 122, 1247, 1226, 122]),
  ((13, 139), (1, 1, [(0, 176)]), (⟨"DoorBench", "trace", "(I)I"⟩, "", ""), [1273, 1274, 1275, 112]),
  ((13, 143), (1, 2, [(0, 177)]), (⟨"DoorBench", "keep", "(II)I"⟩, "", ""), [1277, 1278, 1279, 112]),
  ((13, 147), (1, 3, [(0, 178)]), (⟨"DoorBench", "row", "(III)I"⟩, "", ""), [1281, 1282, 1283, 112]),
  ((13, 153), (1, 3, [(0, 179)]), (⟨"DoorBench", "put", "(IIJ)I"⟩, "", ""), [1286, 1287, 1288, 112]),
  ((0, 313), (1, 2, [(0, 180)]), (⟨"DoorBench", "refusalOfPlace", "(II)I"⟩, "", ""), [1290, 1292, 47, 112]),
  ((13, 158), (1, 2, [(0, 182)]), (⟨"DoorBench", "element", "(II)J"⟩, "", ""), [1297, 1298, 1299, 112]),
  ((13, 163), (1, 5, [(0, 183)]), (⟨"DoorBench", "shift", "(IIIII)I"⟩, "", ""), [1302, 1303, 1304, 112])]
def z_cV3 : List ((Nat × Nat) × (Nat × Nat × List (Nat × Nat)) × (MethodName × String × String) × List Nat) := [((0, 324), (1, 3, [(0, 184)]), (⟨"DoorBench", "hasPlaces", "(III)Z"⟩, "", ""), [1306, 1308, 48, 112]),
  ((13, 167), (1, 2, [(0, 185)]), (⟨"DoorBench", "taken", "(II)I"⟩, "", ""), [1313, 1314, 1315, 112]),
  ((0, 334), (2, 1, [(4, 186), (10, 186), (7, 186), (5, 186), (11, 186), (8, 186), (6, 186), (9, 186)]), (⟨"DoorBench$Way", "isUnder", "(I)Z"⟩, "DoorBench$Way", ""), [1317, 1320, 1318, 1319, 1318, 122, 1321, 1318, 122, 1322, 1318, 122, 1323, 1318, 122, 1324, 1318, 122, 1325, 1318, 122, 1326, 1318, 122, 1327, 1318, 122]),
  ((13, 171), (1, 1, [(0, 187)]), (⟨"DoorBench", "count", "(I)I"⟩, "", ""), [1330, 1331, 1332, 112]),
  ((0, 337), (1, 0, [(0, 188)]), (⟨"DoorBench", "allJudges", "()I"⟩, "", ""), [1334, 1336, 49, 112]),
  ((13, 17), (1, 2, [(12, 190)]), (⟨"DoorBenchModel", "feed", "(II)I"⟩, "", ""), [1504, 1505, 1506, 114]),
  ((13, 22), (1, 0, [(12, 192)]), (⟨"DoorBenchModel", "agenda", "()I"⟩, "", ""), [1512, 1513, 1514, 114]),
  ((12, 196), (1, 0, [(12, 193)]), (⟨"DoorBenchModel", "firstPart", "()V"⟩, "", ""), [1516, 1518, 50, 114]),
  ((12, 147), (1, 1, [(12, 194)]), (⟨"DoorBenchModel", "takes", "(I)Z"⟩, "", ""), [1520, 1522, 51, 114]),
  ((12, 139), (1, 0, [(12, 195)]), (⟨"DoorBenchModel", "byteAt", "()I"⟩, "", ""), [1524, 1526, 52, 114]),
  ((12, 163), (1, 0, [(12, 196)]), (⟨"DoorBenchModel", "wrong", "()Z"⟩, "", ""), [1528, 1530, 53, 114]),
  ((12, 179), (1, 1, [(12, 197)]), (⟨"DoorBenchModel", "questionOf", "(I)I"⟩, "", ""), [1534, 1536, 54, 114]),
  ((12, 199), (1, 0, [(12, 198)]), (⟨"DoorBenchModel", "otherPart", "()V"⟩, "", ""), [1538, 1540, 55, 114]),
  ((12, 190), (1, 0, [(12, 199)]), (⟨"DoorBenchModel", "letters", "()I"⟩, "", ""), [1542, 1544, 56, 114]),
  ((12, 169), (1, 0, [(12, 200)]), (⟨"DoorBenchModel", "alike", "()Z"⟩, "", ""), [1546, 1548, 57, 114]),
  ((12, 143), (1, 0, [(12, 201)]), (⟨"DoorBenchModel", "implied", "()Z"⟩, "", ""), [1550, 1552, 58, 114]),
  ((12, 151), (1, 0, [(12, 202)]), (⟨"DoorBenchModel", "either", "()Z"⟩, "", ""), [1554, 1556, 59, 114]),
  ((12, 154), (1, 0, [(12, 203)]), (⟨"DoorBenchModel", "both", "()Z"⟩, "", ""), [1558, 1560, 60, 114]),
  ((12, 157), (1, 0, [(12, 204)]), (⟨"DoorBenchModel", "one", "()Z"⟩, "", ""), [1562, 1564, 61, 114]),
  ((12, 166), (1, 0, [(12, 205)]), (⟨"DoorBenchModel", "opens", "()Z"⟩, "", ""), [1566, 1568, 62, 114]),
  ((12, 176), (1, 1, [(12, 206)]), (⟨"DoorBenchModel", "atLeast", "(I)Z"⟩, "", ""), [1572, 1574, 63, 114]),
  ((12, 202), (1, 3, [(12, 207)]), (⟨"DoorBenchModel", "keeps", "(III)Z"⟩, "", ""), [1576, 1578, 64, 114]),
  ((12, 206), (1, 1, [(12, 208)]), (⟨"DoorBenchModel", "smallestPart", "(I)I"⟩, "", ""), [1580, 1582, 65, 114]),
  ((13, 26), (1, 2, [(12, 210)]), (⟨"DoorBenchModel", "of", "(II)I"⟩, "", ""), [1587, 1588, 1589, 114]),
  ((12, 209), (1, 1, [(12, 211)]), (⟨"DoorBenchModel", "isAgenda", "(I)Z"⟩, "", ""), [1591, 1593, 66, 114]),
  ((13, 30), (1, 2, [(12, 212)]), (⟨"DoorBenchModel", "lawful", "(II)I"⟩, "", ""), [1595, 1596, 1597, 114]),
  ((13, 34), (1, 2, [(12, 213)]), (⟨"DoorBenchModel", "broken", "(II)I"⟩, "", ""), [1599, 1600, 1601, 114]),
  ((12, 212), (1, 2, [(12, 214)]), (⟨"DoorBenchModel", "isSet", "(II)Z"⟩, "", ""), [1603, 1605, 67, 114]),
  ((13, 39), (1, 3, [(12, 215)]), (⟨"DoorBenchModel", "stands", "(III)I"⟩, "", ""), [1607, 1608, 1609, 114]),
  ((12, 219), (1, 3, [(12, 216)]), (⟨"DoorBenchModel", "areAnswers", "(III)Z"⟩, "", ""), [1611, 1613, 68, 114]),
  ((12, 222), (1, 3, [(12, 217)]), (⟨"DoorBenchModel", "canStand", "(III)Z"⟩, "", ""), [1615, 1617, 69, 114]),
  ((13, 44), (1, 4, [(12, 219)]), (⟨"DoorBenchModel", "forced", "(IIII)I"⟩, "", ""), [1622, 1623, 1624, 114]),
  ((12, 225), (1, 2, [(12, 220)]), (⟨"DoorBenchModel", "isQuestion", "(II)Z"⟩, "", ""), [1626, 1628, 70, 114]),
  ((12, 228), (1, 4, [(12, 221)]), (⟨"DoorBenchModel", "forcedBy", "(IIII)I"⟩, "", ""), [1630, 1632, 71, 114]),
  ((13, 48), (1, 3, [(12, 222)]), (⟨"DoorBenchModel", "why", "(III)I"⟩, "", ""), [1634, 1635, 1636, 114]),
  ((13, 52), (1, 4, [(12, 223)]), (⟨"DoorBenchModel", "judge", "(IIII)I"⟩, "", ""), [1638, 1639, 1640, 114]),
  ((13, 56), (1, 4, [(12, 224)]), (⟨"DoorBenchModel", "change", "(IIII)I"⟩, "", ""), [1643, 1644, 1645, 114]),
  ((12, 234), (1, 2, [(12, 225)]), (⟨"DoorBenchModel", "isJudge", "(II)Z"⟩, "", ""), [1647, 1649, 72, 114]),
  ((13, 60), (1, 4, [(12, 226)]), (⟨"DoorBenchModel", "read", "(IIII)I"⟩, "", ""), [1651, 1652, 1653, 114]),
  ((13, 65), (1, 1, [(12, 228)]), (⟨"DoorBenchModel", "clear", "(I)I"⟩, "", ""), [1659, 1660, 1661, 114]),
  ((13, 69), (1, 3, [(12, 229)]), (⟨"DoorBenchModel", "ofJudge", "(III)I"⟩, "", ""), [1663, 1664, 1665, 114]),
  ((13, 73), (1, 3, [(12, 230)]), (⟨"DoorBenchModel", "votes", "(III)I"⟩, "", ""), [1668, 1669, 1670, 114]),
  ((12, 255), (1, 1, [(12, 231)]), (⟨"DoorBenchModel", "sitDown", "(I)V"⟩, "", ""), [1672, 1674, 73, 114]),
  ((12, 251), (1, 2, [(12, 232)]), (⟨"DoorBenchModel", "votesFor", "(II)I"⟩, "", ""), [1676, 1678, 74, 114]),
  ((13, 77), (1, 2, [(12, 233)]), (⟨"DoorBenchModel", "far", "(II)I"⟩, "", ""), [1680, 1681, 1682, 114]),
  ((12, 259), (1, 1, [(12, 234)]), (⟨"DoorBenchModel", "farFrom", "(I)I"⟩, "", ""), [1684, 1686, 75, 114]),
  ((13, 81), (1, 2, [(12, 235)]), (⟨"DoorBenchModel", "nearest", "(II)I"⟩, "", ""), [1688, 1689, 1690, 114]),
  ((12, 262), (1, 2, [(12, 236)]), (⟨"DoorBenchModel", "nearestOf", "(II)I"⟩, "", ""), [1692, 1694, 76, 114]),
  ((13, 85), (1, 3, [(12, 237)]), (⟨"DoorBenchModel", "way", "(III)I"⟩, "", ""), [1696, 1697, 1698, 114]),
  ((13, 89), (1, 2, [(12, 238)]), (⟨"DoorBenchModel", "ofWay", "(II)I"⟩, "", ""), [1702, 1703, 1704, 114]),
  ((12, 272), (1, 1, [(12, 239)]), (⟨"DoorBenchModel", "isWay", "(I)Z"⟩, "", ""), [1706, 1708, 77, 114]),
  ((13, 93), (1, 3, [(12, 240)]), (⟨"DoorBenchModel", "outcome", "(III)I"⟩, "", ""), [1710, 1711, 1712, 114]),
  ((12, 303), (1, 1, [(12, 241)]), (⟨"DoorBenchModel", "find", "(I)V"⟩, "", ""), [1714, 1716, 78, 114]),
  ((12, 248), (1, 0, [(12, 242)]), (⟨"DoorBenchModel", "all", "()I"⟩, "", ""), [1718, 1720, 79, 114]),
  ((12, 288), (1, 1, [(12, 243)]), (⟨"DoorBenchModel", "byHeads", "(I)V"⟩, "", ""), [1722, 1724, 80, 114]),
  ((12, 281), (1, 1, [(12, 244)]), (⟨"DoorBenchModel", "heads", "(I)I"⟩, "", ""), [1726, 1728, 81, 114]),
  ((12, 284), (1, 2, [(12, 245)]), (⟨"DoorBenchModel", "answer", "(II)V"⟩, "", ""), [1730, 1732, 82, 114]),
  ((12, 291), (1, 0, [(12, 246)]), (⟨"DoorBenchModel", "byPremises", "()V"⟩, "", ""), [1734, 1736, 83, 114]),
  ((12, 294), (1, 0, [(12, 247)]), (⟨"DoorBenchModel", "byEnds", "()V"⟩, "", ""), [1738, 1740, 84, 114]),
  ((12, 297), (1, 1, [(12, 248)]), (⟨"DoorBenchModel", "byTurns", "(I)V"⟩, "", ""), [1742, 1744, 85, 114])]
def z_cV4 : List ((Nat × Nat) × (Nat × Nat × List (Nat × Nat)) × (MethodName × String × String) × List Nat) := [((12, 300), (1, 1, [(12, 249)]), (⟨"DoorBenchModel", "byLeader", "(I)V"⟩, "", ""), [1746, 1748, 86, 114]),
  ((12, 306), (1, 0, [(12, 250)]), (⟨"DoorBenchModel", "brokenBy", "()I"⟩, "", ""), [1750, 1752, 87, 114]),
  ((12, 309), (1, 0, [(12, 251)]), (⟨"DoorBenchModel", "isUnlawful", "()Z"⟩, "", ""), [1754, 1756, 88, 114]),
  ((13, 97), (1, 2, [(12, 252)]), (⟨"DoorBenchModel", "benches", "(II)I"⟩, "", ""), [1758, 1759, 1760, 114]),
  ((12, 320), (1, 2, [(12, 253)]), (⟨"DoorBenchModel", "noBenches", "(II)I"⟩, "", ""), [1762, 1764, 89, 114]),
  ((12, 323), (1, 2, [(12, 254)]), (⟨"DoorBenchModel", "begin", "(II)V"⟩, "", ""), [1766, 1768, 90, 114]),
  ((12, 312), (1, 0, [(12, 255)]), (⟨"DoorBenchModel", "seatAll", "()V"⟩, "", ""), [1770, 1772, 91, 114]),
  ((12, 315), (1, 2, [(12, 256)]), (⟨"DoorBenchModel", "seat", "(II)V"⟩, "", ""), [1774, 1776, 92, 114]),
  ((12, 326), (1, 1, [(12, 257)]), (⟨"DoorBenchModel", "goOn", "(Z)Z"⟩, "", ""), [1778, 1780, 93, 114]),
  ((13, 101), (1, 4, [(12, 258)]), (⟨"DoorBenchModel", "unlawful", "(IIII)I"⟩, "", ""), [1782, 1783, 1784, 114]),
  ((12, 330), (1, 0, [(12, 259)]), (⟨"DoorBenchModel", "code", "()I"⟩, "", ""), [1786, 1788, 94, 114]),
  ((13, 106), (1, 5, [(12, 260)]), (⟨"DoorBenchModel", "unlike", "(IIIII)I"⟩, "", ""), [1790, 1791, 1792, 114]),
  ((13, 110), (1, 4, [(12, 261)]), (⟨"DoorBenchModel", "sway", "(IIII)I"⟩, "", ""), [1794, 1795, 1796, 114]),
  ((13, 114), (1, 3, [(12, 262)]), (⟨"DoorBenchModel", "twist", "(III)I"⟩, "", ""), [1798, 1799, 1800, 114]),
  ((12, 336), (1, 2, [(12, 263)]), (⟨"DoorBenchModel", "twistOf", "(II)I"⟩, "", ""), [1802, 1804, 95, 114]),
  ((12, 333), (1, 1, [(12, 264)]), (⟨"DoorBenchModel", "apart", "(I)I"⟩, "", ""), [1806, 1808, 96, 114]),
  ((13, 118), (1, 3, [(12, 265)]), (⟨"DoorBenchModel", "twisted", "(III)I"⟩, "", ""), [1810, 1811, 1812, 114]),
  ((13, 122), (1, 4, [(12, 266)]), (⟨"DoorBenchModel", "breach", "(IIII)I"⟩, "", ""), [1814, 1815, 1816, 114]),
  ((12, 360), (1, 4, [(12, 267)]), (⟨"DoorBenchModel", "breachOf", "(IIII)I"⟩, "", ""), [1819, 1821, 97, 114]),
  ((12, 345), (1, 3, [(12, 268)]), (⟨"DoorBenchModel", "findRows", "(III)V"⟩, "", ""), [1823, 1825, 98, 114]),
  ((12, 342), (1, 2, [(12, 269)]), (⟨"DoorBenchModel", "setOf", "(II)I"⟩, "", ""), [1827, 1829, 99, 114]),
  ((12, 349), (1, 2, [(12, 270)]), (⟨"DoorBenchModel", "sortedRow", "(II)I"⟩, "", ""), [1831, 1833, 100, 114]),
  ((12, 352), (1, 2, [(12, 271)]), (⟨"DoorBenchModel", "isOwn", "(II)Z"⟩, "", ""), [1835, 1837, 101, 114]),
  ((12, 355), (1, 2, [(12, 272)]), (⟨"DoorBenchModel", "isMinded", "(II)Z"⟩, "", ""), [1839, 1841, 102, 114]),
  ((13, 126), (1, 3, [(12, 273)]), (⟨"DoorBenchModel", "keeper", "(III)I"⟩, "", ""), [1843, 1844, 1845, 114]),
  ((13, 130), (1, 3, [(12, 274)]), (⟨"DoorBenchModel", "mend", "(III)I"⟩, "", ""), [1848, 1849, 1850, 114]),
  ((12, 368), (1, 3, [(12, 275)]), (⟨"DoorBenchModel", "mends", "(III)Z"⟩, "", ""), [1852, 1854, 103, 114]),
  ((13, 134), (1, 3, [(12, 276)]), (⟨"DoorBenchModel", "orders", "(III)I"⟩, "", ""), [1856, 1857, 1858, 114]),
  ((12, 377), (1, 4, [(12, 277)]), (⟨"DoorBenchModel", "tryOrders", "(IIII)V"⟩, "", ""), [1860, 1862, 104, 114]),
  ((13, 138), (1, 3, [(12, 278)]), (⟨"DoorBenchModel", "act", "(III)I"⟩, "", ""), [1864, 1865, 1866, 114]),
  ((12, 393), (1, 2, [(12, 279)]), (⟨"DoorBenchModel", "counts", "(II)I"⟩, "", ""), [1868, 1870, 105, 114]),
  ((12, 384), (1, 1, [(12, 280)]), (⟨"DoorBenchModel", "ranBody", "(I)V"⟩, "", ""), [1872, 1874, 106, 114]),
  ((12, 396), (1, 2, [(12, 282)]), (⟨"DoorBenchModel", "weighs", "(II)I"⟩, "", ""), [1879, 1881, 107, 114]),
  ((12, 399), (1, 2, [(12, 283)]), (⟨"DoorBenchModel", "binds", "(II)I"⟩, "", ""), [1883, 1885, 108, 114]),
  ((12, 402), (1, 2, [(12, 284)]), (⟨"DoorBenchModel", "tells", "(II)I"⟩, "", ""), [1887, 1889, 109, 114]),
  ((13, 142), (1, 1, [(12, 285)]), (⟨"DoorBenchModel", "trace", "(I)I"⟩, "", ""), [1891, 1892, 1893, 114]),
  ((13, 146), (1, 2, [(12, 286)]), (⟨"DoorBenchModel", "keep", "(II)I"⟩, "", ""), [1895, 1896, 1897, 114]),
  ((13, 150), (1, 3, [(12, 287)]), (⟨"DoorBenchModel", "row", "(III)I"⟩, "", ""), [1899, 1900, 1901, 114]),
  ((13, 157), (1, 3, [(12, 288)]), (⟨"DoorBenchModel", "put", "(IIJ)I"⟩, "", ""), [1903, 1904, 1905, 114]),
  ((12, 405), (1, 2, [(12, 289)]), (⟨"DoorBenchModel", "refusal", "(II)I"⟩, "", ""), [1907, 1909, 110, 114]),
  ((13, 162), (1, 2, [(12, 291)]), (⟨"DoorBenchModel", "element", "(II)J"⟩, "", ""), [1914, 1915, 1916, 114]),
  ((13, 166), (1, 5, [(12, 292)]), (⟨"DoorBenchModel", "shift", "(IIIII)I"⟩, "", ""), [1919, 1920, 1921, 114]),
  ((13, 170), (1, 2, [(12, 293)]), (⟨"DoorBenchModel", "taken", "(II)I"⟩, "", ""), [1923, 1924, 1925, 114]),
  ((13, 174), (1, 1, [(12, 294)]), (⟨"DoorBenchModel", "count", "(I)I"⟩, "", ""), [1927, 1928, 1929, 114])]
def z_cV : List ((Nat × Nat) × (Nat × Nat × List (Nat × Nat)) × (MethodName × String × String) × List Nat) := z_cV0 ++ (z_cV1 ++ (z_cV2 ++ (z_cV3 ++ (z_cV4))))
def z_cI0 : List ((Nat × Nat) × (Nat × Nat × List (Nat × Nat)) × (MethodName × String × String) × List Nat) := [((13, 9), (3, 0, [(0, 1)]), (⟨"DoorBench", "<init>", "()V"⟩, "", ""), [133, 134, 112]),
  ((0, 1), (7, 0, []), (⟨"java/lang/Object", "<init>", "()V"⟩, "", ""), [136, 137]),
  ((0, 9), (6, 0, [(0, 2)]), (⟨"DoorBench$Tape", "<init>", "()V"⟩, "", "DoorBench"), [142, 113]),
  ((1, 3), (7, 0, []), (⟨"java/lang/Object", "<init>", "()V"⟩, "", ""), [144, 137]),
  ((1, 107), (3, 5, [(0, 23)]), (⟨"DoorBench$Agenda", "<init>", "(IIII[J)V"⟩, "", ""), [311, 312, 116]),
  ((2, 3), (7, 0, []), (⟨"java/lang/Object", "<init>", "()V"⟩, "", ""), [314, 137]),
  ((0, 82), (3, 1, [(0, 33)]), (⟨"DoorBench$Bench", "<init>", "(LDoorBench$Agenda;)V"⟩, "", ""), [416, 417, 120]),
  ((3, 3), (7, 0, []), (⟨"java/lang/Object", "<init>", "()V"⟩, "", ""), [419, 137]),
  ((0, 197), (3, 3, [(0, 77)]), (⟨"DoorBench$Heads", "<init>", "(II[I)V"⟩, "", ""), [657, 658, 123]),
  ((5, 1), (3, 5, [(0, 78)]), (⟨"DoorBench$Way", "<init>", "(II[III)V"⟩, "", ""), [660, 661, 122]),
  ((4, 3), (7, 0, []), (⟨"java/lang/Object", "<init>", "()V"⟩, "", ""), [663, 137]),
  ((0, 202), (3, 3, [(0, 79)]), (⟨"DoorBench$Premises", "<init>", "(II[I)V"⟩, "", ""), [691, 692, 124]),
  ((6, 1), (3, 3, [(0, 77)]), (⟨"DoorBench$Heads", "<init>", "(II[I)V"⟩, "", ""), [694, 658, 123]),
  ((0, 205), (3, 3, [(0, 80)]), (⟨"DoorBench$Ends", "<init>", "(II[I)V"⟩, "", ""), [703, 704, 125]),
  ((7, 1), (3, 3, [(0, 77)]), (⟨"DoorBench$Heads", "<init>", "(II[I)V"⟩, "", ""), [706, 658, 123]),
  ((0, 208), (3, 3, [(0, 81)]), (⟨"DoorBench$Near", "<init>", "(II[I)V"⟩, "", ""), [715, 716, 126]),
  ((8, 1), (3, 5, [(0, 78)]), (⟨"DoorBench$Way", "<init>", "(II[III)V"⟩, "", ""), [718, 661, 122]),
  ((0, 211), (3, 5, [(0, 82)]), (⟨"DoorBench$Turns", "<init>", "(II[III)V"⟩, "", ""), [727, 728, 127]),
  ((9, 1), (3, 5, [(0, 78)]), (⟨"DoorBench$Way", "<init>", "(II[III)V"⟩, "", ""), [730, 661, 122]),
  ((0, 216), (3, 5, [(0, 83)]), (⟨"DoorBench$Chair", "<init>", "(II[III)V"⟩, "", ""), [739, 740, 128]),
  ((10, 1), (3, 5, [(0, 82)]), (⟨"DoorBench$Turns", "<init>", "(II[III)V"⟩, "", ""), [742, 728, 127]),
  ((0, 219), (3, 5, [(0, 84)]), (⟨"DoorBench$Leader", "<init>", "(II[III)V"⟩, "", ""), [751, 752, 129]),
  ((11, 3), (3, 5, [(0, 78)]), (⟨"DoorBench$Way", "<init>", "(II[III)V"⟩, "", ""), [754, 661, 122]),
  ((0, 220), (3, 5, [(0, 78)]), (⟨"DoorBench$Way", "<init>", "(II[III)V"⟩, "", ""), [762, 661, 122]),
  ((5, 19), (4, 1, [(0, 165)]), (⟨"DoorBench$Way", "counts", "(I)I"⟩, "DoorBench$Way", ""), [1173, 1160, 688, 1158, 122]),
  ((8, 34), (4, 1, [(0, 165)]), (⟨"DoorBench$Way", "counts", "(I)I"⟩, "DoorBench$Way", ""), [1182, 1160, 724, 1158, 122]),
  ((10, 46), (4, 1, [(0, 167)]), (⟨"DoorBench$Turns", "weighs", "(I)I"⟩, "DoorBench$Turns", ""), [1197, 1943, 748, 1198, 127]),
  ((9, 30), (4, 1, [(0, 169)]), (⟨"DoorBench$Way", "weighs", "(I)I"⟩, "DoorBench$Way", ""), [1204, 1190, 736, 1188, 122]),
  ((6, 36), (9, 1, [(0, 169)]), (⟨"DoorBench$Heads", "weighs", "(I)I"⟩, "DoorBench$Way", ""), [1215, 1216, 700, 688, 1188, 122]),
  ((10, 42), (9, 1, [(0, 172)]), (⟨"DoorBench$Turns", "binds", "(I)I"⟩, "DoorBench$Way", ""), [1232, 1233, 748, 736, 1226, 122]),
  ((7, 39), (9, 1, [(0, 172)]), (⟨"DoorBench$Heads", "binds", "(I)I"⟩, "DoorBench$Way", ""), [1241, 1242, 712, 688, 1226, 122]),
  ((9, 33), (4, 1, [(0, 175)]), (⟨"DoorBench$Way", "tells", "(I)I"⟩, "DoorBench$Way", ""), [1256, 1252, 736, 1250, 122]),
  ((11, 48), (4, 1, [(0, 175)]), (⟨"DoorBench$Way", "tells", "(I)I"⟩, "DoorBench$Way", ""), [1265, 1252, 760, 1250, 122]),
  ((11, 51), (4, 1, [(0, 172)]), (⟨"DoorBench$Way", "binds", "(I)I"⟩, "DoorBench$Way", ""), [1266, 1228, 760, 1226, 122]),
  ((13, 12), (3, 0, [(0, 189)]), (⟨"DoorBenchModel", "<init>", "()V"⟩, "", ""), [1340, 1341, 114]),
  ((12, 1), (7, 0, []), (⟨"java/lang/Object", "<init>", "()V"⟩, "", ""), [1343, 137])]
def z_cI : List ((Nat × Nat) × (Nat × Nat × List (Nat × Nat)) × (MethodName × String × String) × List Nat) := z_cI0
/-- words that a warmer machine doesn't keep by the general law: carried from call to call -/
def z_xw : List Jvm.Cond := [.methodLinkNest "DoorBench" 9 ⟨"DoorBench$Tape", "<init>", "()V"⟩ "DoorBench", .fieldLinkNest "DoorBench$Tape" 99 "DoorBench" "YES_SETS" "[J" "DoorBench", .fieldLinkNest "DoorBench$Agenda" 97 "DoorBench" "YES_SETS" "[J" "DoorBench", .methodLinkNest "DoorBench$Bench" 136 ⟨"DoorBench", "choose", "(II)I"⟩ "DoorBench", .methodLinkNest "DoorBench$Way" 125 ⟨"DoorBench", "choose", "(II)I"⟩ "DoorBench", .fieldLinkNest "DoorBench$Way" 28 "DoorBench" "KIND_ABOVE" "[I" "DoorBench", .castable "DoorBench$Heads" "DoorBench$Way", .castable "DoorBench$Premises" "DoorBench$Way", .castable "DoorBench$Ends" "DoorBench$Way", .castable "DoorBench$Near" "DoorBench$Way", .castable "DoorBench$Turns" "DoorBench$Way", .castable "DoorBench$Chair" "DoorBench$Way", .castable "DoorBench$Leader" "DoorBench$Way"]
end
section
/-! the mini-VM: the methods' own bytes, run over a heap that is a list of cells; references are places in that list.
    Places 0 .. 3 are read-only (the script, three tables); what the law makes comes behind them, in order. -/
abbrev zA : Type := Nat × ((Nat → Int32) ⊕ (Nat → Int64) ⊕ (Nat → Option Nat))
abbrev zE : Type := (Nat × zA) ⊕ (Nat × List Value)
abbrev zH : Type := List zE
abbrev zL : Type := List (Option Value)
abbrev zS : Type := List Value
def z_name (j : Nat) : MethodName := (z_m j).1
def z_b (j : Nat) : ByteArray := (z_m j).2.1
def z_ml (j : Nat) : Nat := (z_m j).2.2.1
def z_rt (j : Nat) : Option FieldType := (z_m j).2.2.2.1
def z_oc (j : Nat) : Nat := (z_m j).2.2.2.2
/-- a value has a type's form -/
def z_fit : FieldType → Value → Bool
  | .int, .int _ => true
  | .long, .long _ => true
  | .boolean, .int v => v == 0 || v == 1
  | .object _, .ref _ => true
  | .object _, .null => true
  | .array _, .ref _ => true
  | .array _, .null => true
  | _, _ => false
def z_cat (o : Option Value) : Bool := match o with
  | some (.long _) => true
  | some (.double _) => true
  | _ => false
def z_p1 (L : zL) (i : Nat) (v : Value) : zL := match i with
  | 0 => L.set 0 (some v)
  | k + 1 => if z_cat ((L[k]?).join) = true then (L.set (k + 1) (some v)).set k none else L.set (k + 1) (some v)
def z_p2 (L : zL) (i : Nat) (v : Value) : zL := (z_p1 L i v).set (i + 1) none
def z_ent (vs : List Value) (n : Nat) : zL := (vs.flatMap fun v => if v.category = 2 then [some v, none] else [some v]) ++ List.replicate (n - (vs.flatMap fun v => if v.category = 2 then [some v, none] else [some v]).length) none
def z_get (L : zL) (i : Nat) : Option Value := (L[i]?).join
def z_br {α : Type} (c : ClassFile.Cond) (x y : Int32) (a b : α) : α := match c with
  | .eq => if x = y then a else b
  | .ne => if x = y then b else a
  | .lt => if x < y then a else b
  | .ge => if x < y then b else a
  | .gt => if y < x then a else b
  | .le => if y < x then b else a
def z_tg (pc : Nat) (off : Int) : Option Nat := match (pc : Int) + off with
  | .ofNat t => some t
  | .negSucc _ => none
def z_out (i : Int32) (n : Nat) : Prop := i < 0 ∨ n ≤ i.toNatClampNeg
def z_updL (f : Nat → Int64) (k : Nat) (x : Int64) : Nat → Int64 := fun j => if j = k then x else f j
def z_updR (f : Nat → Option Nat) (k : Nat) (x : Option Nat) : Nat → Option Nat := fun j => if j = k then x else f j
def z_find {α : Type} (l : List ((Nat × Nat) × α)) (c i : Nat) : Option α := (l.find? fun e => e.1.1 == c && e.1.2 == i).map (·.2)
def z_dv : FieldType → Value
  | .int => .int 0
  | .boolean => .int 0
  | .long => .long 0
  | _ => .null
def z_nf (ci : Nat) : Nat := ((z_cl[ci]?).map (·.2.2)).getD 0
def z_blank (ci : Nat) : List Value := (List.range (z_nf ci)).map fun k => z_dv (z_fty ci k)
def z_len (i : Instr) (len : Nat) : Nat := match i with
  | .bipush _ | .iload _ | .lload _ | .aload _ | .istore _ | .lstore _ | .astore _ | .ldc _ | .newarray _ => 2
  | .sipush _ | .iinc _ _ | .ifCond _ _ | .if_icmp _ _ | .ifnull _ | .ifnonnull _ | .goto _ | .ldc_w _ | .ldc2_w _ | .getfield _ | .putfield _ | .getstatic _ | .new _ | .anewarray _ | .invokestatic _ | .invokevirtual _ | .invokespecial _ => 3
  | .tableswitch _ _ _ _ | .lookupswitch _ _ => len
  | _ => 1
/-- numbers, locals, stack, branches -/
def z_s1 (i : Instr) (pc : Nat) (L : zL) (S : zS) : Option (Nat × zL × zS) := match i with
  | .aconst_null => some (pc + 1, L, .null :: S)
  | .iconst n => some (pc + 1, L, .int (Int32.ofInt n) :: S)
  | .bipush n => some (pc + 2, L, .int (Int8.ofInt n).toInt32 :: S)
  | .sipush n => some (pc + 3, L, .int (Int16.ofInt n).toInt32 :: S)
  | .lconst n => some (pc + 1, L, .long (Int64.ofNat n) :: S)
  | .iload_n k => match z_get L k with | some (.int x) => some (pc + 1, L, .int x :: S) | _ => none
  | .iload k => match z_get L k with | some (.int x) => some (pc + 2, L, .int x :: S) | _ => none
  | .lload_n k => match z_get L k with | some (.long x) => some (pc + 1, L, .long x :: S) | _ => none
  | .lload k => match z_get L k with | some (.long x) => some (pc + 2, L, .long x :: S) | _ => none
  | .aload_n k => match z_get L k with | some (.ref x) => some (pc + 1, L, .ref x :: S) | some .null => some (pc + 1, L, .null :: S) | _ => none
  | .aload k => match z_get L k with | some (.ref x) => some (pc + 2, L, .ref x :: S) | some .null => some (pc + 2, L, .null :: S) | _ => none
  | .istore_n k => match S with | .int x :: r => if (k : Nat) < L.length then some (pc + 1, z_p1 L k (.int x), r) else none | _ => none
  | .istore k => match S with | .int x :: r => if k < L.length then some (pc + 2, z_p1 L k (.int x), r) else none | _ => none
  | .lstore_n k => match S with | .long x :: r => if (k : Nat) + 1 < L.length then some (pc + 1, z_p2 L k (.long x), r) else none | _ => none
  | .lstore k => match S with | .long x :: r => if k + 1 < L.length then some (pc + 2, z_p2 L k (.long x), r) else none | _ => none
  | .astore_n k => match S with | .ref x :: r => if (k : Nat) < L.length then some (pc + 1, z_p1 L k (.ref x), r) else none | .null :: r => if (k : Nat) < L.length then some (pc + 1, z_p1 L k .null, r) else none | _ => none
  | .astore k => match S with | .ref x :: r => if k < L.length then some (pc + 2, z_p1 L k (.ref x), r) else none | .null :: r => if k < L.length then some (pc + 2, z_p1 L k .null, r) else none | _ => none
  | .iinc k n => match z_get L k with | some (.int x) => some (pc + 3, z_p1 L k (.int (x + Int32.ofInt n)), S) | _ => none
  | .iadd => match S with | .int y :: .int x :: r => some (pc + 1, L, .int (x + y) :: r) | _ => none
  | .isub => match S with | .int y :: .int x :: r => some (pc + 1, L, .int (x - y) :: r) | _ => none
  | .imul => match S with | .int y :: .int x :: r => some (pc + 1, L, .int (x * y) :: r) | _ => none
  | .iand => match S with | .int y :: .int x :: r => some (pc + 1, L, .int (x &&& y) :: r) | _ => none
  | .ior => match S with | .int y :: .int x :: r => some (pc + 1, L, .int (x ||| y) :: r) | _ => none
  | .ixor => match S with | .int y :: .int x :: r => some (pc + 1, L, .int (x ^^^ y) :: r) | _ => none
  | .idiv => match S with | .int y :: .int x :: r => if y = 0 then none else some (pc + 1, L, .int (x / y) :: r) | _ => none
  | .irem => match S with | .int y :: .int x :: r => if y = 0 then none else some (pc + 1, L, .int (x - x / y * y) :: r) | _ => none
  | .ineg => match S with | .int x :: r => some (pc + 1, L, .int (-x) :: r) | _ => none
  | .ladd => match S with | .long y :: .long x :: r => some (pc + 1, L, .long (x + y) :: r) | _ => none
  | .lsub => match S with | .long y :: .long x :: r => some (pc + 1, L, .long (x - y) :: r) | _ => none
  | .land => match S with | .long y :: .long x :: r => some (pc + 1, L, .long (x &&& y) :: r) | _ => none
  | .lor => match S with | .long y :: .long x :: r => some (pc + 1, L, .long (x ||| y) :: r) | _ => none
  | .lxor => match S with | .long y :: .long x :: r => some (pc + 1, L, .long (x ^^^ y) :: r) | _ => none
  | .ishl => match S with | .int y :: .int x :: r => some (pc + 1, L, .int (x <<< (y &&& 31)) :: r) | _ => none
  | .ishr => match S with | .int y :: .int x :: r => some (pc + 1, L, .int (x >>> (y &&& 31)) :: r) | _ => none
  | .iushr => match S with | .int y :: .int x :: r => some (pc + 1, L, .int ((x.toUInt32 >>> (y.toUInt32 &&& Int32.toUInt32 31)).toInt32) :: r) | _ => none
  | .lushr => match S with | .int y :: .long x :: r => some (pc + 1, L, .long ((x.toUInt64 >>> (y.toInt64.toUInt64 &&& Int64.toUInt64 63)).toInt64) :: r) | _ => none
  | .lshl => match S with | .int y :: .long x :: r => some (pc + 1, L, .long (x <<< (y.toInt64 &&& 63)) :: r) | _ => none
  | .lcmp => match S with | .long y :: .long x :: r => some (pc + 1, L, .int (lg_cmp x y) :: r) | _ => none
  | .i2l => match S with | .int x :: r => some (pc + 1, L, .long x.toInt64 :: r) | _ => none
  | .l2i => match S with | .long x :: r => some (pc + 1, L, .int x.toInt32 :: r) | _ => none
  | .i2b => match S with | .int x :: r => some (pc + 1, L, .int x.toInt8.toInt32 :: r) | _ => none
  | .i2s => match S with | .int x :: r => some (pc + 1, L, .int x.toInt16.toInt32 :: r) | _ => none
  | .dup => match S with | v :: r => if v.category = 1 then some (pc + 1, L, v :: v :: r) else none | _ => none
  | .pop => match S with | v :: r => if v.category = 1 then some (pc + 1, L, r) else none | _ => none
  | .dup_x1 => match S with | v :: w :: r => if v.category = 1 ∧ w.category = 1 then some (pc + 1, L, v :: w :: v :: r) else none | _ => none
  | .dup_x2 => match S with | v :: w :: u :: r => if v.category = 1 ∧ w.category = 1 ∧ u.category = 1 then some (pc + 1, L, v :: w :: u :: v :: r) else none | _ => none
  | .dup2 => match S with | v :: w :: r => if v.category = 1 ∧ w.category = 1 then some (pc + 1, L, v :: w :: v :: w :: r) else if v.category = 2 then some (pc + 1, L, v :: v :: w :: r) else none | _ => none
  | .pop2 => match S with | v :: r => if v.category = 2 then some (pc + 1, L, r) else none | _ => none
  | .ifCond c off => match S, z_tg pc off with | .int x :: r, some t => some (z_br c x 0 t (pc + 3), L, r) | _, _ => none
  | .if_icmp c off => match S, z_tg pc off with | .int y :: .int x :: r, some t => some (z_br c x y t (pc + 3), L, r) | _, _ => none
  | .ifnull off => match S, z_tg pc off with | .null :: r, some t => some (t, L, r) | .ref _ :: r, some _ => some (pc + 3, L, r) | _, _ => none
  | .ifnonnull off => match S, z_tg pc off with | .null :: r, some _ => some (pc + 3, L, r) | .ref _ :: r, some t => some (t, L, r) | _, _ => none
  | .goto off => match z_tg pc off with | some t => some (t, L, S) | _ => none
  | .tableswitch d lo hi offs => match S with
    | .int x :: r => if x.toInt < lo ∨ hi < x.toInt then (match z_tg pc d with | some t => some (t, L, r) | _ => none)
      else (match offs[(x.toInt - lo).toNat]? with | some off => (match z_tg pc off with | some t => some (t, L, r) | _ => none) | _ => none)
    | _ => none
  | .lookupswitch d ps => match S with
    | .int x :: r => if (ps.toList.zip (ps.toList.drop 1)).all (fun (a, next) => a.1 < next.1) = true then (match z_tg pc (Op.lookupswitch.offset ps.toList d x.toInt) with | some t => some (t, L, r) | _ => none) else none
    | _ => none
  | _ => none
/-- the heap -/
def z_s2 (c : Nat) (init : Bool) (i : Instr) (pc : Nat) (S : zS) (M : zH) : Option (Nat × zS × zH) := match i with
  | .ldc k => (z_find z_ld c k).map fun q => (pc + 2, .int q.1 :: S, M)
  | .ldc_w k => (z_find z_ld c k).map fun q => (pc + 3, .int q.1 :: S, M)
  | .ldc2_w k => (z_find z_l2 c k).map fun q => (pc + 3, .long q.1 :: S, M)
  | .getstatic k => (z_find z_gs c k).map fun q => (pc + 3, .ref q.1 :: S, M)
  | .getfield k => match S with
    | .ref a :: r => match M[a]?, z_find z_fl c k with
      | some (.inr (ci, fs)), some q => if ci ∈ q.1.2 ∧ 4 ≤ a then (fs[q.1.1]?).map fun v => (pc + 3, v :: r, M) else none
      | _, _ => none
    | _ => none
  | .putfield k => match S with
    | v :: .ref a :: r => match M[a]?, z_find z_fl c k with
      | some (.inr (ci, fs)), some q => if ci ∈ q.1.2 ∧ 4 ≤ a ∧ z_fit (z_fty ci q.1.1) v = true ∧ q.1.1 < fs.length ∧ (((z_cl[ci]?).map fun w => (w.2.1 q.1.1).2.2.2) = some false ∨ (init = true ∧ q.2.1.2.1 = z_cn c)) then some (pc + 3, r, M.set a (.inr (ci, fs.set q.1.1 v))) else none
      | _, _ => none
    | _ => none
  | .new k => (z_find z_nw c k).map fun q => (pc + 3, .ref M.length :: S, M ++ [.inr (q.1, z_blank q.1)])
  | .newarray t => match S with
    | .int n :: r => if n < 0 ∨ 1000000 < n.toNatClampNeg then none else match t with
      | .int => some (pc + 2, .ref M.length :: r, M ++ [.inl (0, n.toNatClampNeg, .inl fun _ => 0)])
      | .long => some (pc + 2, .ref M.length :: r, M ++ [.inl (1, n.toNatClampNeg, .inr (.inl fun _ => 0))])
      | _ => none
    | _ => none
  | .anewarray k => match S with
    | .int n :: r => if n < 0 ∨ 1000000 < n.toNatClampNeg then none else (z_find z_an c k).map fun q => (pc + 3, .ref M.length :: r, M ++ [.inl (q.1, n.toNatClampNeg, .inr (.inr fun _ => none))])
    | _ => none
  | .arraylength => match S with
    | .ref a :: r => match M[a]? with | some (.inl (_, n, _)) => some (pc + 1, .int (Int32.ofNat n) :: r, M) | _ => none
    | _ => none
  | .iaload => match S with
    | .int i :: .ref a :: r => match M[a]? with | some (.inl (0, n, .inl f)) => if i < 0 ∨ n ≤ i.toNatClampNeg then none else some (pc + 1, .int (f i.toNatClampNeg) :: r, M) | _ => none
    | _ => none
  | .laload => match S with
    | .int i :: .ref a :: r => match M[a]? with | some (.inl (1, n, .inr (.inl f))) => if i < 0 ∨ n ≤ i.toNatClampNeg then none else some (pc + 1, .long (f i.toNatClampNeg) :: r, M) | _ => none
    | _ => none
  | .aaload => match S with
    | .int i :: .ref a :: r => match M[a]? with | some (.inl (t, n, .inr (.inr f))) => if i < 0 ∨ n ≤ i.toNatClampNeg ∨ a < 4 ∨ t < 2 then none else some (pc + 1, va_rf (f i.toNatClampNeg) :: r, M) | _ => none
    | _ => none
  | .iastore => match S with
    | .int x :: .int i :: .ref a :: r => match M[a]? with | some (.inl (0, n, .inl f)) => if i < 0 ∨ n ≤ i.toNatClampNeg ∨ a < 4 then none else some (pc + 1, r, M.set a (.inl (0, n, .inl (upd f i.toNatClampNeg x)))) | _ => none
    | _ => none
  | .lastore => match S with
    | .long x :: .int i :: .ref a :: r => match M[a]? with | some (.inl (1, n, .inr (.inl f))) => if i < 0 ∨ n ≤ i.toNatClampNeg ∨ a < 4 then none else some (pc + 1, r, M.set a (.inl (1, n, .inr (.inl (z_updL f i.toNatClampNeg x))))) | _ => none
    | _ => none
  | .aastore => match S with
    | .null :: .int i :: .ref a :: r => match M[a]? with | some (.inl (t, n, .inr (.inr f))) => if i < 0 ∨ n ≤ i.toNatClampNeg ∨ a < 4 ∨ t < 2 then none else some (pc + 1, r, M.set a (.inl (t, n, .inr (.inr (z_updR f i.toNatClampNeg none))))) | _ => none
    | .ref v :: .int i :: .ref a :: r => match M[a]?, M[v]? with
      | some (.inl (t, n, .inr (.inr f))), some (.inr (ci, _)) => if i < 0 ∨ n ≤ i.toNatClampNeg ∨ a < 4 ∨ v < 4 ∨ ¬ ((t = 2 ∧ ci = 3) ∨ (t = 3 ∧ 4 ≤ ci ∧ ci ≤ 11)) then none else some (pc + 1, r, M.set a (.inl (t, n, .inr (.inr (z_updR f i.toNatClampNeg (some v))))))
      | _, _ => none
    | _ => none
  | _ => none
/-- System.arraycopy of longs -/
def z_cpy (f g : Nat → Int64) (sp dp n : Nat) : Nat → Int64 := fun k => if dp ≤ k ∧ k < dp + n then f (sp + (k - dp)) else g k
def z_copy (S : zS) (M : zH) : Option (zS × zH) := match S with
  | .int n :: .int dp :: .ref a :: .int sp :: .ref b :: r => match M[a]?, M[b]? with
    | some (.inl (1, na, .inr (.inl g))), some (.inl (1, nb, .inr (.inl f))) =>
      if sp < 0 ∨ dp < 0 ∨ n < 0 ∨ a < 4 ∨ b < 4 ∨ nb < sp.toNatClampNeg + n.toNatClampNeg ∨ na < dp.toNatClampNeg + n.toNatClampNeg then none
      else some (r, M.set a (.inl (1, na, .inr (.inl (z_cpy f g sp.toNatClampNeg dp.toNatClampNeg n.toNatClampNeg)))))
    | _, _ => none
  | _ => none
def z_ws (S : zS) : Nat := (S.map fun v => v.category).sum
/-- a call site: its kind, the callee, the callee's arguments (the receiver first), the rest of the stack -/
def z_call (c : Nat) (i : Instr) (S : zS) (M : zH) : Option (Nat × Nat × List Value × zS) := match i with
  | .invokestatic k => match z_find z_cS c k with
    | some ((kd, n, tg), _) => match tg with
      | [(_, j)] => if n ≤ S.length then some (kd, j, (S.take n).reverse, S.drop n) else none
      | _ => none
    | _ => none
  | .invokevirtual k => match z_find z_cV c k with
    | some ((kd, n, tg), _) => match S[n]? with
      | some (.ref b) => match M[b]? with
        | some (.inr (ci, _)) => if 4 ≤ b then (tg.find? fun t => t.1 == ci).map fun t => (kd, t.2, .ref b :: (S.take n).reverse, S.drop (n + 1)) else none
        | _ => none
      | _ => none
    | _ => none
  | .invokespecial k => match z_find z_cI c k with
    | some ((kd, n, tg), _) => match S[n]?, tg with
      | some (.ref b), [(_, j)] => match M[b]? with
        | some (.inr (_, _)) => if 4 ≤ b then some (kd, j, .ref b :: (S.take n).reverse, S.drop (n + 1)) else none
        | _ => none
      | _, _ => none
    | _ => none
  | _ => none
/-- what isn't a call of a method of ours: Object's start, arraycopy -/
def z_s3 (c : Nat) (i : Instr) (pc : Nat) (S : zS) (M : zH) : Option (Nat × zS × zH) := match i with
  | .invokespecial k => match z_find z_cI c k, S with
    | some ((7, _, _), _), .ref _ :: r => if z_ws r ≤ 8 then some (pc + 3, r, M) else none
    | _, _ => none
  | .invokestatic k => match z_find z_cS c k with
    | some ((8, _, _), _) => match z_copy S M with
      | some (r, M1) => if z_ws r ≤ 8 then some (pc + 3, r, M1) else none
      | _ => none
    | _ => none
  | _ => none
/-- one step that stays in the method -/
def z_st (j : Nat) (i : Instr) (pc : Nat) (L : zL) (S : zS) (M : zH) : Option (Nat × zL × zS × zH) :=
  match z_s1 i pc L S with
  | some (pc1, L1, S1) => some (pc1, L1, S1, M)
  | none => match z_s2 (z_oc j) ((z_name j).name == "<init>") i pc S M with
    | some (pc1, S1, M1) => some (pc1, L, S1, M1)
    | none => match z_s3 (z_oc j) i pc S M with
      | some (pc1, S1, M1) => some (pc1, L, S1, M1)
      | none => none
/-- the end of a method: its answer -/
def z_end (j : Nat) (i : Instr) (S : zS) : Option (Option Value) := match i, z_rt j, S with
  | .return_, none, [] => some none
  | .ireturn, some .int, [.int v] => some (some (.int v))
  | .ireturn, some .boolean, [.int v] => if v = 0 ∨ v = 1 then some (some (.int v)) else none
  | .lreturn, some .long, [.long v] => some (some (.long v))
  | .areturn, some (.object _), [.ref a] => some (some (.ref a))
  | .areturn, some (.object _), [.null] => some (some .null)
  | _, _, _ => none
/-- a run: fuel n, depth d -/
def z_run : Nat → Nat → Nat → Nat → zL → zS → zH → Option (Option Value × zH)
  | 0, _, _, _, _, _, _ => none
  | n + 1, d, j, pc, L, S, M => match decode (z_b j) pc with
    | .error _ => none
    | .ok (i, len) => if len = z_len i len then
        match z_end j i S with
        | some r => some (r, M)
        | none => match z_st j i pc L S M with
          | some (pc1, L1, S1, M1) => z_run n d j pc1 L1 S1 M1
          | none => match d, z_call (z_oc j) i S M with
            | d1 + 1, some (kd, k, vs, r) => if z_ws r ≤ 8 ∧ kd ≠ 7 ∧ kd ≠ 8 ∧ (z_ent vs 0).length ≤ z_ml k then
                match z_run n d1 k 0 (z_ent vs (z_ml k)) [] M with
                | some (v, M1) => z_run n d j (pc + 3) L (v.toList ++ r) M1
                | none => none
              else none
            | _, _ => none
      else none
end
section
/-! the machine's state and the mini-VM's: when one stands for the other -/
def z_ty (t : Nat) : FieldType := match t with
  | 0 => .int
  | 1 => .long
  | 2 => .object "DoorBench$Bench"
  | _ => .object "DoorBench$Way"
abbrev zG : Type := (Nat → ClassId) × (Nat → Nat → Nat) × (Nat → ClassId)
/-- where a cell lies: the read-only ones by r, the others one behind the other from base on -/
def z_ad (r : Nat → Nat) (base k : Nat) : Nat := if k < 4 then r k else base + (k - 4)
def z_sh (ad : Nat → Nat) (v : Value) : Value := match v with
  | .ref a => .ref (ad a)
  | w => w
theorem z_sh_cat (ad : Nat → Nat) (v : Value) : (z_sh ad v).category = v.category := by cases v <;> rfl
def z_val (ad : Nat → Nat) (a : zA) (i : Nat) : Value := match a.2 with
  | .inl f => .int (f i)
  | .inr (.inl f) => .long (f i)
  | .inr (.inr f) => va_rf ((f i).map ad)
def z_at (G : zG) (ad : Nat → Nat) (k : Nat) (e : zE) (H : Heap) : Prop := match e with
  | .inl (t, a) => t < 4 ∧ H[ad k]? = some (arrV (G.2.2 t) a.1 (z_val ad a))
  | .inr (ci, fs) => ∃ r, z_cl[ci]? = some r ∧ t_OB (ad k) (G.1 ci) r.2.2 (G.2.1 ci) H (vp_V (fs.map (z_sh ad)))
/-- what is known of the classes -/
def z_K (G : zG) (U : State) : Prop := (∀ ci q, z_cl[ci]? = some q → u_Kn U q.1 q.2.1 q.2.2 (G.1 ci) (G.2.1 ci)) ∧ (∀ t, t < 4 → ArrOfT U (G.2.2 t) (z_ty t) ∧ va_RA U (G.2.2 t) (z_ty t)) ∧ (∀ w ∈ z_xw, va_Nw w U) ∧ va_AO "DoorBench$Bench" U ∧ va_AO "DoorBench$Way" U
/-- the read-only cells: the tables' statics hold them, and they hold what the list says -/
def z_ro (r : Nat → Nat) (A : Nat → Prop) (k : Nat) (e : zE) (U : State) (H : Heap) : Prop := match e with
  | .inl (t, n, .inl f) => t = 0 ∧ va_T .int (r k) n (fun j => .int (f j)) A U H
  | .inl (t, n, .inr (.inl f)) => t = 1 ∧ va_T .long (r k) n (fun j => .long (f j)) A U H
  | _ => False
def z_R (r : Nat → Nat) (A : Nat → Prop) (ro : zH) (U : State) (H : Heap) : Prop :=
  va_Z "DoorBench" "CHOOSE" "[I" (.ref (r 1)) A U H ∧ va_Z "DoorBench" "YES_SETS" "[J" (.ref (r 2)) A U H ∧ va_Z "DoorBench" "KIND_ABOVE" "[I" (.ref (r 3)) A U H ∧ ∀ k e, ro[k]? = some e → z_ro r A k e U H
def z_A (base : Nat) : Nat → Prop := fun q => base ≤ q
/-- a heap stands for a list of cells -/
def z_Rl (G : zG) (r : Nat → Nat) (base : Nat) (ro : zH) (H0 : Heap) (M : zH) (H : Heap) (locs : List Loc) : Prop :=
  H.size + 4 = base + M.length ∧ 4 ≤ M.length ∧ M.take 4 = ro ∧ (∀ k e, 4 ≤ k → M[k]? = some e → z_at G (z_ad r base) k e H) ∧ va_S (z_A base) H0 H locs ∧ base ≤ H0.size
/-- the locals -/
def z_lv (ad : Nat → Nat) (ls : Array Slot) (nL : Nat) (L : zL) : Prop := ls.size = nL ∧ L.length = nL ∧ lv_wf ls ∧ ∀ (i : Nat) (v : Value), L[i]? = some (some v) → ls[i]? = some (.val (z_sh ad v))
def z_as (ad : Nat → Nat) (L : zL) : List (Nat × Value) := (List.range L.length).filterMap fun i => (z_get L i).map fun v => (i, z_sh ad v)
theorem z_get_some {L : zL} {i : Nat} {v : Value} : z_get L i = some v ↔ L[i]? = some (some v) := by
  unfold z_get
  cases h : L[i]? with
  | none => simp
  | some o => simp
theorem z_as_mem {ad : Nat → Nat} {L : zL} {i : Nat} {w : Value} : (i, w) ∈ z_as ad L ↔ ∃ v, L[i]? = some (some v) ∧ w = z_sh ad v := by
  unfold z_as
  rw [List.mem_filterMap]
  constructor
  · rintro ⟨k, hk, h⟩
    cases hg : z_get L k with
    | none => rw [hg] at h; cases h
    | some v =>
      rw [hg] at h
      cases h
      exact ⟨v, z_get_some.mp hg, rfl⟩
  · rintro ⟨v, h, rfl⟩
    have hl : i < L.length := (List.getElem?_eq_some_iff.mp h).1
    exact ⟨i, List.mem_range.mpr hl, by rw [z_get_some.mpr h]; rfl⟩
theorem z_lv.has {ad : Nat → Nat} {ls : Array Slot} {nL : Nat} {L : zL} (h : z_lv ad ls nL L) : lv_has ls nL (z_as ad L) := by
  refine ⟨h.1, h.2.2.1, fun q hq => ?_⟩
  obtain ⟨v, h1, h2⟩ := z_as_mem.mp (show (q.1, q.2) ∈ z_as ad L from hq)
  rw [h2]
  exact h.2.2.2 _ _ h1
theorem z_lv.at {ad : Nat → Nat} {ls : Array Slot} {nL : Nat} {L : zL} (h : z_lv ad ls nL L) {i : Nat} {v : Value} (hi : z_get L i = some v) : ls[i]? = some (.val (z_sh ad v)) := h.2.2.2 _ _ (z_get_some.mp hi)
theorem z_cat_iff {v : Value} : z_cat (some v) = true ↔ v.category = 2 := by cases v <;> simp [z_cat, Value.category]
theorem z_p1_len (L : zL) (i : Nat) (v : Value) : (z_p1 L i v).length = L.length := by
  unfold z_p1
  split
  · simp
  · split <;> simp
theorem z_p1_get {L : zL} {i : Nat} {v : Value} {j : Nat} {w : Value} (h : (z_p1 L i v)[j]? = some (some w)) : (j = i ∧ w = v) ∨ (j ≠ i ∧ L[j]? = some (some w) ∧ ¬ (j + 1 = i ∧ w.category = 2)) := by
  unfold z_p1 at h
  split at h
  · by_cases hj : j = 0
    · subst hj
      rw [List.getElem?_set] at h
      split at h
      · split at h
        · cases h; exact Or.inl ⟨rfl, rfl⟩
        · cases h
      · rename_i q; exact absurd rfl q
    · rw [List.getElem?_set_ne (Ne.symm hj)] at h
      exact Or.inr ⟨hj, h, fun q => by omega⟩
  · rename_i k
    by_cases hj : j = k + 1
    · left
      refine ⟨hj, ?_⟩
      subst hj
      split at h
      · rw [List.getElem?_set_ne (by omega), List.getElem?_set] at h
        simp only [if_true] at h
        split at h
        · cases h; rfl
        · cases h
      · rw [List.getElem?_set] at h
        simp only [if_true] at h
        split at h
        · cases h; rfl
        · cases h
    · right
      refine ⟨hj, ?_⟩
      split at h
      · by_cases hk : j = k
        · subst hk
          rw [List.getElem?_set] at h
          simp only [if_true] at h
          split at h <;> cases h
        · rw [List.getElem?_set_ne (Ne.symm hk), List.getElem?_set_ne (Ne.symm hj)] at h
          exact ⟨h, fun q => hk (by omega)⟩
      · rename_i hc
        rw [List.getElem?_set_ne (Ne.symm hj)] at h
        refine ⟨h, fun q => hc ?_⟩
        have hk : j = k := by omega
        subst hk
        rw [h]
        exact z_cat_iff.mpr q.2
theorem z_lv.put1 {ad : Nat → Nat} {ls ls' : Array Slot} {nL : Nat} {L : zL} {i : Nat} {v : Value} (h : z_lv ad ls nL L)
    (h' : lv_has ls' nL ((i, z_sh ad v) :: (z_as ad L).filter (fun q => !(q.1 == i) && !(q.1 + 1 == i && q.2.category == 2)))) : z_lv ad ls' nL (z_p1 L i v) := by
  refine ⟨h'.1, by rw [z_p1_len]; exact h.2.1, h'.2.1, fun j w hj => ?_⟩
  rcases z_p1_get hj with ⟨rfl, rfl⟩ | ⟨h1, h2, h3⟩
  · exact h'.2.2 (_, _) List.mem_cons_self
  · refine h'.2.2 (j, z_sh ad w) (List.mem_cons_of_mem _ (List.mem_filter.mpr ⟨z_as_mem.mpr ⟨w, h2, rfl⟩, ?_⟩))
    simp only [Bool.and_eq_true, Bool.not_eq_true', beq_eq_false_iff_ne, Bool.and_eq_false_iff, z_sh_cat]
    refine ⟨h1, ?_⟩
    by_cases q : j + 1 = i
    · exact Or.inr (fun z => h3 ⟨q, z⟩)
    · exact Or.inl q
theorem z_lv.put2 {ad : Nat → Nat} {ls ls' : Array Slot} {nL : Nat} {L : zL} {i : Nat} {v : Value} (h : z_lv ad ls nL L)
    (h' : lv_has ls' nL ((i, z_sh ad v) :: (z_as ad L).filter (fun q => !(q.1 == i) && (!(q.1 == i + 1) && !(q.1 + 1 == i && q.2.category == 2))))) : z_lv ad ls' nL (z_p2 L i v) := by
  refine ⟨h'.1, by unfold z_p2; rw [List.length_set, z_p1_len]; exact h.2.1, h'.2.1, fun j w hj => ?_⟩
  unfold z_p2 at hj
  by_cases hji : j = i + 1
  · subst hji
    rw [List.getElem?_set] at hj
    simp only [if_true] at hj
    split at hj <;> cases hj
  · rw [List.getElem?_set_ne (Ne.symm hji)] at hj
    rcases z_p1_get hj with ⟨rfl, rfl⟩ | ⟨h1, h2, h3⟩
    · exact h'.2.2 (_, _) List.mem_cons_self
    · refine h'.2.2 (j, z_sh ad w) (List.mem_cons_of_mem _ (List.mem_filter.mpr ⟨z_as_mem.mpr ⟨w, h2, rfl⟩, ?_⟩))
      simp only [Bool.and_eq_true, Bool.not_eq_true', beq_eq_false_iff_ne, Bool.and_eq_false_iff, z_sh_cat]
      refine ⟨h1, hji, ?_⟩
      by_cases q : j + 1 = i
      · exact Or.inr (fun z => h3 ⟨q, z⟩)
      · exact Or.inl q
/-- the locals with which a method begins -/
theorem z_ent_list (ad : Nat → Nat) : ∀ (vs : List Value) (b j : Nat) (w : Value), (vs.flatMap fun v => if v.category = 2 then [some v, none] else [some v])[j]? = some (some w) → (b + j, z_sh ad w) ∈ lv_args b (vs.map (z_sh ad))
  | [], b, j, w, h => by simp at h
  | v :: vs, b, j, w, h => by
    rw [List.flatMap_cons] at h
    by_cases hc : v.category = 2
    · rw [if_pos hc] at h
      show _ ∈ (b, z_sh ad v) :: lv_args (if (z_sh ad v).category = 2 then b + 2 else b + 1) (vs.map (z_sh ad))
      rw [z_sh_cat, if_pos hc]
      match j, h with
      | 0, h => cases h; exact List.mem_cons_self
      | 1, h => cases h
      | k + 2, h =>
        have := z_ent_list ad vs (b + 2) k w h
        rw [show b + (k + 2) = b + 2 + k by omega]
        exact List.mem_cons_of_mem _ this
    · rw [if_neg hc] at h
      show _ ∈ (b, z_sh ad v) :: lv_args (if (z_sh ad v).category = 2 then b + 2 else b + 1) (vs.map (z_sh ad))
      rw [z_sh_cat, if_neg hc]
      match j, h with
      | 0, h => cases h; exact List.mem_cons_self
      | k + 1, h =>
        have := z_ent_list ad vs (b + 1) k w h
        rw [show b + (k + 1) = b + 1 + k by omega]
        exact List.mem_cons_of_mem _ this
theorem z_ent_sl (ad : Nat → Nat) (vs : List Value) : (lg_sl (vs.map (z_sh ad))).length = (z_ent vs 0).length := by
  induction vs with
  | nil => rfl
  | cons v vs ih =>
    have e1 : (z_ent (v :: vs) 0).length = (if v.category = 2 then 2 else 1) + (z_ent vs 0).length := by
      unfold z_ent
      simp only [Nat.zero_sub, List.replicate_zero, List.append_nil, List.flatMap_cons, List.length_append]
      split <;> simp
    rw [e1, ← ih, List.map_cons]
    cases v <;> simp [lg_sl, z_sh, Value.category] <;> omega
theorem z_lv_entry (ad : Nat → Nat) (vs : List Value) {n : Nat} (h : (z_ent vs 0).length ≤ n) : z_lv ad ((lg_sl (vs.map (z_sh ad)) ++ List.replicate (n - (lg_sl (vs.map (z_sh ad))).length) Slot.unset).toArray) n (z_ent vs n) := by
  have h0 := lv_entry (vs.map (z_sh ad)) (n := n) (by rw [z_ent_sl]; exact h)
  have e0 : (z_ent vs 0).length = (vs.flatMap fun v => if v.category = 2 then [some v, none] else [some v]).length := by simp [z_ent]
  refine ⟨h0.1, ?_, h0.2.1, fun i v hi => ?_⟩
  · unfold z_ent
    rw [List.length_append, List.length_replicate]
    omega
  · unfold z_ent at hi
    by_cases hl : i < (vs.flatMap fun v => if v.category = 2 then [some v, none] else [some v]).length
    · rw [List.getElem?_append_left hl] at hi
      have := z_ent_list ad vs 0 i v hi
      rw [Nat.zero_add] at this
      exact h0.2.2 _ this
    · rw [List.getElem?_append_right (by omega), List.getElem?_replicate] at hi
      split at hi <;> cases hi
end
section
/-! one step over numbers, locals, the stack: the machine follows the mini-VM (printed by wip/gen/s1.py) -/
section ZS1
variable {p : Program} {l : Launch} {e : Env} {R : Room} {s : State} {m : MethodId} {args : Array Value} {below : List Frame} {meth : Method} {c : Code} {H : Heap} {locs : List Loc} {cells slots : Nat} {Q : State → Prop}
variable {cc : ByteArray} {pc : Nat} {ls : Array Slot} {ad : Nat → Nat}
theorem z_tg_some {pc : Nat} {off : Int} {t : Nat} (h : z_tg pc off = some t) : (pc : Int) + off = (t : Int) := by
  unfold z_tg at h
  split at h
  · rename_i q; cases h; exact q
  · cases h
theorem z_cat1 {v : Value} {ad : Nat → Nat} (h : v.category = 1) : (z_sh ad v).category = 1 := by rw [z_sh_cat]; exact h
theorem z_cat2 {v : Value} {ad : Nat → Nat} (h : v.category = 2) : (z_sh ad v).category = 2 := by rw [z_sh_cat]; exact h
set_option maxHeartbeats 4000000 in
theorem z_s1_ok (hx : p.tables.exec = Jvm.exec) (hb : c.code = cc) {nL : Nat} {i : Instr} {len : Nat} {L L1 : zL} {S S1 : zS} {pc1 : Nat} (hl : z_lv ad ls nL L) (hdg : decode cc pc = .ok (i, len)) (hlen : len = z_len i len) (hst : z_s1 i pc L S = some (pc1, L1, S1))
    (kk : ∀ ls1, z_lv ad ls1 nL L1 → W p l e R s m args below meth c H locs cells slots Q (F0 m pc1 ls1 (S1.map (z_sh ad)))) : W p l e R s m args below meth c H locs cells slots Q (F0 m pc ls (S.map (z_sh ad))) := by
  have hLn := hl.2.1
  cases i
  case aconst_null =>
    obtain rfl : len = 1 := hlen
    cases hst
    exact lv_null hx hb hdg (kk ls hl)
  case iconst n =>
    obtain rfl : len = 1 := hlen
    cases hst
    exact lv_iconst hx hb hdg rfl (kk ls hl)
  case bipush n =>
    obtain rfl : len = 2 := hlen
    cases hst
    exact lv_bipush hx hb hdg rfl (kk ls hl)
  case sipush n =>
    obtain rfl : len = 3 := hlen
    cases hst
    exact lv_sipush hx hb hdg rfl (kk ls hl)
  case lconst n =>
    obtain rfl : len = 1 := hlen
    cases hst
    exact lv_lconst hx hb hdg rfl (kk ls hl)
  case iload_n k =>
    obtain rfl : len = 1 := hlen
    dsimp only [z_s1] at hst
    split at hst
    · rename_i v hg
      cases hst
      exact lv_iload_n hx hb hdg rfl (hl.at hg) (kk ls hl)
    · cases hst
  case iload k =>
    obtain rfl : len = 2 := hlen
    dsimp only [z_s1] at hst
    split at hst
    · rename_i v hg
      cases hst
      exact lv_iload hx hb hdg (hl.at hg) (kk ls hl)
    · cases hst
  case lload_n k =>
    obtain rfl : len = 1 := hlen
    dsimp only [z_s1] at hst
    split at hst
    · rename_i v hg
      cases hst
      exact lv_lload_n hx hb hdg rfl (hl.at hg) (kk ls hl)
    · cases hst
  case lload k =>
    obtain rfl : len = 2 := hlen
    dsimp only [z_s1] at hst
    split at hst
    · rename_i v hg
      cases hst
      exact lv_lload hx hb hdg (hl.at hg) (kk ls hl)
    · cases hst
  case aload_n k =>
    obtain rfl : len = 1 := hlen
    dsimp only [z_s1] at hst
    split at hst
    · rename_i v hg
      cases hst
      exact lv_aload_n hx hb hdg rfl (hl.at hg) (kk ls hl)
    · rename_i hg
      cases hst
      exact lv_aload_nN hx hb hdg rfl (hl.at hg) (kk ls hl)
    · cases hst
  case aload k =>
    obtain rfl : len = 2 := hlen
    dsimp only [z_s1] at hst
    split at hst
    · rename_i v hg
      cases hst
      exact lv_aload hx hb hdg (hl.at hg) (kk ls hl)
    · rename_i hg
      cases hst
      exact lv_aloadN hx hb hdg (hl.at hg) (kk ls hl)
    · cases hst
  case istore_n k =>
    obtain rfl : len = 1 := hlen
    dsimp only [z_s1] at hst
    split at hst
    · split at hst
      · rename_i hk
        cases hst
        exact lv_istore_n hx hb hdg rfl hl.has (by rw [← hLn]; exact hk) rfl (fun ls1 h1 => kk ls1 (hl.put1 h1))
      · cases hst
    · cases hst
  case istore k =>
    obtain rfl : len = 2 := hlen
    dsimp only [z_s1] at hst
    split at hst
    · split at hst
      · rename_i hk
        cases hst
        exact lv_istore hx hb hdg hl.has (by rw [← hLn]; exact hk) rfl (fun ls1 h1 => kk ls1 (hl.put1 h1))
      · cases hst
    · cases hst
  case lstore_n k =>
    obtain rfl : len = 1 := hlen
    dsimp only [z_s1] at hst
    split at hst
    · split at hst
      · rename_i hk
        cases hst
        exact lv_lstore_n hx hb hdg rfl hl.has (by rw [← hLn]; exact hk) rfl (fun ls1 h1 => kk ls1 (hl.put2 h1))
      · cases hst
    · cases hst
  case lstore k =>
    obtain rfl : len = 2 := hlen
    dsimp only [z_s1] at hst
    split at hst
    · split at hst
      · rename_i hk
        cases hst
        exact lv_lstore hx hb hdg hl.has (by rw [← hLn]; exact hk) rfl (fun ls1 h1 => kk ls1 (hl.put2 h1))
      · cases hst
    · cases hst
  case astore_n k =>
    obtain rfl : len = 1 := hlen
    dsimp only [z_s1] at hst
    split at hst
    · split at hst
      · rename_i hk
        cases hst
        exact lv_astore_n hx hb hdg rfl hl.has (by rw [← hLn]; exact hk) rfl (fun ls1 h1 => kk ls1 (hl.put1 h1))
      · cases hst
    · split at hst
      · rename_i hk
        cases hst
        exact lv_astore_nN hx hb hdg rfl hl.has (by rw [← hLn]; exact hk) rfl (fun ls1 h1 => kk ls1 (hl.put1 h1))
      · cases hst
    · cases hst
  case astore k =>
    obtain rfl : len = 2 := hlen
    dsimp only [z_s1] at hst
    split at hst
    · split at hst
      · rename_i hk
        cases hst
        exact lv_astore hx hb hdg hl.has (by rw [← hLn]; exact hk) rfl (fun ls1 h1 => kk ls1 (hl.put1 h1))
      · cases hst
    · split at hst
      · rename_i hk
        cases hst
        exact lv_astoreN hx hb hdg hl.has (by rw [← hLn]; exact hk) rfl (fun ls1 h1 => kk ls1 (hl.put1 h1))
      · cases hst
    · cases hst
  case iinc k n =>
    obtain rfl : len = 3 := hlen
    dsimp only [z_s1] at hst
    split at hst
    · rename_i v hg
      cases hst
      obtain ⟨q, hq⟩ := List.getElem?_of_mem (z_as_mem (ad := ad).mpr ⟨_, z_get_some.mp hg, rfl⟩)
      have hk : k < nL := by rw [← hLn]; exact (List.getElem?_eq_some_iff.mp (z_get_some.mp hg)).1
      exact lv_iinc hx hb hdg hl.has (k := q) hq rfl hk rfl (fun ls1 h1 => kk ls1 (hl.put1 h1))
    · cases hst
  case iadd =>
    obtain rfl : len = 1 := hlen
    dsimp only [z_s1] at hst
    split at hst
    · cases hst
      exact lv_iadd hx hb hdg (kk ls hl)
    · cases hst
  case isub =>
    obtain rfl : len = 1 := hlen
    dsimp only [z_s1] at hst
    split at hst
    · cases hst
      exact lv_isub hx hb hdg (kk ls hl)
    · cases hst
  case imul =>
    obtain rfl : len = 1 := hlen
    dsimp only [z_s1] at hst
    split at hst
    · cases hst
      exact lv_imul hx hb hdg (kk ls hl)
    · cases hst
  case iand =>
    obtain rfl : len = 1 := hlen
    dsimp only [z_s1] at hst
    split at hst
    · cases hst
      exact lv_iand hx hb hdg (kk ls hl)
    · cases hst
  case ior =>
    obtain rfl : len = 1 := hlen
    dsimp only [z_s1] at hst
    split at hst
    · cases hst
      exact lv_ior hx hb hdg (kk ls hl)
    · cases hst
  case ixor =>
    obtain rfl : len = 1 := hlen
    dsimp only [z_s1] at hst
    split at hst
    · cases hst
      exact lv_ixor hx hb hdg (kk ls hl)
    · cases hst
  case ineg =>
    obtain rfl : len = 1 := hlen
    dsimp only [z_s1] at hst
    split at hst
    · cases hst
      exact lv_ineg hx hb hdg (kk ls hl)
    · cases hst
  case ladd =>
    obtain rfl : len = 1 := hlen
    dsimp only [z_s1] at hst
    split at hst
    · cases hst
      exact lv_ladd hx hb hdg (kk ls hl)
    · cases hst
  case lsub =>
    obtain rfl : len = 1 := hlen
    dsimp only [z_s1] at hst
    split at hst
    · cases hst
      exact lv_lsub hx hb hdg (kk ls hl)
    · cases hst
  case land =>
    obtain rfl : len = 1 := hlen
    dsimp only [z_s1] at hst
    split at hst
    · cases hst
      exact lv_land hx hb hdg (kk ls hl)
    · cases hst
  case lor =>
    obtain rfl : len = 1 := hlen
    dsimp only [z_s1] at hst
    split at hst
    · cases hst
      exact lv_lor hx hb hdg (kk ls hl)
    · cases hst
  case lxor =>
    obtain rfl : len = 1 := hlen
    dsimp only [z_s1] at hst
    split at hst
    · cases hst
      exact lv_lxor hx hb hdg (kk ls hl)
    · cases hst
  case ishl =>
    obtain rfl : len = 1 := hlen
    dsimp only [z_s1] at hst
    split at hst
    · cases hst
      exact lv_ishl hx hb hdg (kk ls hl)
    · cases hst
  case ishr =>
    obtain rfl : len = 1 := hlen
    dsimp only [z_s1] at hst
    split at hst
    · cases hst
      exact lv_ishr hx hb hdg (kk ls hl)
    · cases hst
  case iushr =>
    obtain rfl : len = 1 := hlen
    dsimp only [z_s1] at hst
    split at hst
    · cases hst
      exact lv_iushr hx hb hdg rfl (kk ls hl)
    · cases hst
  case lushr =>
    obtain rfl : len = 1 := hlen
    dsimp only [z_s1] at hst
    split at hst
    · cases hst
      exact lv_lushr hx hb hdg rfl (kk ls hl)
    · cases hst
  case lshl =>
    obtain rfl : len = 1 := hlen
    dsimp only [z_s1] at hst
    split at hst
    · cases hst
      exact lv_lshl hx hb hdg rfl (kk ls hl)
    · cases hst
  case i2l =>
    obtain rfl : len = 1 := hlen
    dsimp only [z_s1] at hst
    split at hst
    · cases hst
      exact lv_i2l hx hb hdg rfl (kk ls hl)
    · cases hst
  case l2i =>
    obtain rfl : len = 1 := hlen
    dsimp only [z_s1] at hst
    split at hst
    · cases hst
      exact lv_l2i hx hb hdg rfl (kk ls hl)
    · cases hst
  case i2b =>
    obtain rfl : len = 1 := hlen
    dsimp only [z_s1] at hst
    split at hst
    · cases hst
      exact lv_i2b hx hb hdg rfl (kk ls hl)
    · cases hst
  case i2s =>
    obtain rfl : len = 1 := hlen
    dsimp only [z_s1] at hst
    split at hst
    · cases hst
      exact lv_i2s hx hb hdg rfl (kk ls hl)
    · cases hst
  case lcmp =>
    obtain rfl : len = 1 := hlen
    dsimp only [z_s1] at hst
    split at hst
    · cases hst
      exact W.lcmp hx hb hdg (kk ls hl)
    · cases hst
  case idiv =>
    obtain rfl : len = 1 := hlen
    dsimp only [z_s1] at hst
    split at hst
    · split at hst
      · cases hst
      · rename_i hne
        cases hst
        exact lv_idiv hx hb hdg hne (kk ls hl)
    · cases hst
  case irem =>
    obtain rfl : len = 1 := hlen
    dsimp only [z_s1] at hst
    split at hst
    · split at hst
      · cases hst
      · rename_i hne
        cases hst
        exact lv_irem hx hb hdg hne (kk ls hl)
    · cases hst
  case dup =>
    obtain rfl : len = 1 := hlen
    dsimp only [z_s1] at hst
    split at hst
    · split at hst
      · rename_i h1
        cases hst
        exact lv_dup hx hb hdg (z_cat1 h1) (kk ls hl)
      · cases hst
    · cases hst
  case pop =>
    obtain rfl : len = 1 := hlen
    dsimp only [z_s1] at hst
    split at hst
    · split at hst
      · rename_i h1
        cases hst
        exact lv_pop hx hb hdg (z_cat1 h1) (kk ls hl)
      · cases hst
    · cases hst
  case dup_x1 =>
    obtain rfl : len = 1 := hlen
    dsimp only [z_s1] at hst
    split at hst
    · split at hst
      · rename_i h1
        cases hst
        exact lv_dup_x1 hx hb hdg (z_cat1 h1.1) (z_cat1 h1.2) (kk ls hl)
      · cases hst
    · cases hst
  case dup_x2 =>
    obtain rfl : len = 1 := hlen
    dsimp only [z_s1] at hst
    split at hst
    · split at hst
      · rename_i h1
        cases hst
        exact lv_dup_x2 hx hb hdg (z_cat1 h1.1) (z_cat1 h1.2.1) (z_cat1 h1.2.2) (kk ls hl)
      · cases hst
    · cases hst
  case dup2 =>
    obtain rfl : len = 1 := hlen
    dsimp only [z_s1] at hst
    split at hst
    · split at hst
      · rename_i h1
        cases hst
        exact lv_dup2_11 hx hb hdg (z_cat1 h1.1) (z_cat1 h1.2) (kk ls hl)
      · split at hst
        · rename_i h1
          cases hst
          exact lv_dup2_2 hx hb hdg (z_cat2 h1) (kk ls hl)
        · cases hst
    · cases hst
  case pop2 =>
    obtain rfl : len = 1 := hlen
    dsimp only [z_s1] at hst
    split at hst
    · split at hst
      · rename_i h1
        cases hst
        exact lv_pop2_2 hx hb hdg (z_cat2 h1) (kk ls hl)
      · cases hst
    · cases hst
  case ifCond cnd off =>
    obtain rfl : len = 3 := hlen
    dsimp only [z_s1] at hst
    split at hst
    · rename_i ht
      cases hst
      have ht := z_tg_some ht
      cases cnd
      case eq => exact lv_if_eq hx hb hdg ht (fun q => by have k := kk ls hl; simp only [z_br, if_pos q] at k; exact k) (fun q => by have k := kk ls hl; simp only [z_br, if_neg q] at k; exact k)
      case ne => exact lv_if_ne hx hb hdg ht (fun q => by have k := kk ls hl; simp only [z_br, if_neg q] at k; exact k) (fun q => by have k := kk ls hl; simp only [z_br, if_pos q] at k; exact k)
      case lt => exact lv_if_lt hx hb hdg ht (fun q => by have k := kk ls hl; simp only [z_br, if_pos q] at k; exact k) (fun q => by have k := kk ls hl; simp only [z_br, if_neg q] at k; exact k)
      case ge => exact lv_if_ge hx hb hdg ht (fun q => by have k := kk ls hl; simp only [z_br, if_neg (Int32.not_lt.mpr q)] at k; exact k) (fun q => by have k := kk ls hl; simp only [z_br, if_pos (Int32.not_le.mp q)] at k; exact k)
      case gt => exact lv_if_gt hx hb hdg ht (fun q => by have k := kk ls hl; simp only [z_br, if_pos q] at k; exact k) (fun q => by have k := kk ls hl; simp only [z_br, if_neg q] at k; exact k)
      case le => exact lv_if_le hx hb hdg ht (fun q => by have k := kk ls hl; simp only [z_br, if_neg (Int32.not_lt.mpr q)] at k; exact k) (fun q => by have k := kk ls hl; simp only [z_br, if_pos (Int32.not_le.mp q)] at k; exact k)
    · cases hst
  case if_icmp cnd off =>
    obtain rfl : len = 3 := hlen
    dsimp only [z_s1] at hst
    split at hst
    · rename_i ht
      cases hst
      have ht := z_tg_some ht
      cases cnd
      case eq => exact lv_icmp_eq hx hb hdg ht (fun q => by have k := kk ls hl; simp only [z_br, if_pos q] at k; exact k) (fun q => by have k := kk ls hl; simp only [z_br, if_neg q] at k; exact k)
      case ne => exact lv_icmp_ne hx hb hdg ht (fun q => by have k := kk ls hl; simp only [z_br, if_neg q] at k; exact k) (fun q => by have k := kk ls hl; simp only [z_br, if_pos q] at k; exact k)
      case lt => exact lv_icmp_lt hx hb hdg ht (fun q => by have k := kk ls hl; simp only [z_br, if_pos q] at k; exact k) (fun q => by have k := kk ls hl; simp only [z_br, if_neg q] at k; exact k)
      case ge => exact lv_icmp_ge hx hb hdg ht (fun q => by have k := kk ls hl; simp only [z_br, if_neg (Int32.not_lt.mpr q)] at k; exact k) (fun q => by have k := kk ls hl; simp only [z_br, if_pos (Int32.not_le.mp q)] at k; exact k)
      case gt => exact lv_icmp_gt hx hb hdg ht (fun q => by have k := kk ls hl; simp only [z_br, if_pos q] at k; exact k) (fun q => by have k := kk ls hl; simp only [z_br, if_neg q] at k; exact k)
      case le => exact lv_icmp_le hx hb hdg ht (fun q => by have k := kk ls hl; simp only [z_br, if_neg (Int32.not_lt.mpr q)] at k; exact k) (fun q => by have k := kk ls hl; simp only [z_br, if_pos (Int32.not_le.mp q)] at k; exact k)
    · cases hst
  case ifnull off =>
    obtain rfl : len = 3 := hlen
    dsimp only [z_s1] at hst
    split at hst
    · rename_i ht
      cases hst
      exact lv_ifnullN hx hb hdg (z_tg_some ht) (kk ls hl)
    · cases hst
      exact lv_ifnull hx hb hdg (kk ls hl)
    · cases hst
  case ifnonnull off =>
    obtain rfl : len = 3 := hlen
    dsimp only [z_s1] at hst
    split at hst
    · cases hst
      exact lv_ifnonnullN hx hb hdg (kk ls hl)
    · rename_i ht
      cases hst
      exact lv_ifnonnull hx hb hdg (z_tg_some ht) (kk ls hl)
    · cases hst
  case goto off =>
    obtain rfl : len = 3 := hlen
    dsimp only [z_s1] at hst
    split at hst
    · rename_i ht
      cases hst
      exact lv_goto hx hb hdg (z_tg_some ht) (kk ls hl)
    · cases hst
  case tableswitch d lo hi offs =>
    dsimp only [z_s1] at hst
    split at hst
    · split at hst
      · rename_i hc
        split at hst
        · rename_i ht
          cases hst
          exact lv_tableOut hx hb hdg hc (z_tg_some ht) (kk ls hl)
        · cases hst
      · rename_i hc
        have hc1 := not_or.mp hc
        split at hst
        · rename_i ho
          split at hst
          · rename_i ht
            cases hst
            exact lv_tableIn hx hb hdg hc1.1 hc1.2 ho (z_tg_some ht) (kk ls hl)
          · cases hst
        · cases hst
    · cases hst
  case lookupswitch d ps =>
    dsimp only [z_s1] at hst
    split at hst
    · split at hst
      · rename_i hp
        split at hst
        · rename_i ht
          cases hst
          exact lv_lookup hx hb hdg hp rfl (z_tg_some ht) (kk ls hl)
        · cases hst
      · cases hst
    · cases hst
  all_goals cases hst
end ZS1
end
