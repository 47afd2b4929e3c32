/-! printed by wip/gen/data.py: the classes, their fields, the methods, the call sites -/
def z_T0 : u_T := fun k => match k with
  | 0 => ("DoorBench", "tape", "LDoorBench$Tape;", true)
  | 1 => ("DoorBench", "seated", "[LDoorBench$Bench;", true)
  | 2 => ("DoorBench", "trials", "[LDoorBench$Bench;", true)
  | 3 => ("DoorBench", "agendas", "I", false)
  | 4 => ("DoorBench", "bodies", "[LDoorBench$Way;", true)
  | 5 => ("DoorBench", "ways", "I", false)
  | 6 => ("DoorBench", "ran", "[I", true)
  | 7 => ("DoorBench", "sorts", "[I", true)
  | 8 => ("DoorBench", "sizes", "[I", true)
  | 9 => ("DoorBench", "elements", "[J", true)
  | 10 => ("DoorBench", "kept", "[LDoorBench$Way;", true)
  | 11 => ("DoorBench", "outcomes", "[I", true)
  | _ => ("DoorBench", "remembered", "[I", false)
def z_Y0 : Nat → FieldType := fun k => match k with
  | 0 => .object "DoorBench$Tape"
  | 1 => .array (.object "DoorBench$Bench")
  | 2 => .array (.object "DoorBench$Bench")
  | 3 => .int
  | 4 => .array (.object "DoorBench$Way")
  | 5 => .int
  | 6 => .array .int
  | 7 => .array .int
  | 8 => .array .int
  | 9 => .array .long
  | 10 => .array (.object "DoorBench$Way")
  | 11 => .array .int
  | _ => .array .int
def z_T1 : u_T := fun k => match k with
  | 0 => ("DoorBench$Tape", "bytes", "[I", true)
  | 1 => ("DoorBench$Tape", "length", "I", false)
  | 2 => ("DoorBench$Tape", "at", "I", false)
  | 3 => ("DoorBench$Tape", "fault", "I", false)
  | 4 => ("DoorBench$Tape", "questions", "I", false)
  | 5 => ("DoorBench$Tape", "premises", "I", false)
  | 6 => ("DoorBench$Tape", "ends", "I", false)
  | 7 => ("DoorBench$Tape", "ties", "I", false)
  | 8 => ("DoorBench$Tape", "numbers", "[I", true)
  | 9 => ("DoorBench$Tape", "tieStarts", "[I", true)
  | 10 => ("DoorBench$Tape", "block", "I", false)
  | _ => ("DoorBench$Tape", "reached", "[J", true)
def z_Y1 : Nat → FieldType := fun k => match k with
  | 0 => .array .int
  | 1 => .int
  | 2 => .int
  | 3 => .int
  | 4 => .int
  | 5 => .int
  | 6 => .int
  | 7 => .int
  | 8 => .array .int
  | 9 => .array .int
  | 10 => .int
  | _ => .array .long
def z_T2 : u_T := fun k => match k with
  | 0 => ("DoorBench$Agenda", "questions", "I", true)
  | 1 => ("DoorBench$Agenda", "all", "I", true)
  | 2 => ("DoorBench$Agenda", "premises", "I", true)
  | 3 => ("DoorBench$Agenda", "ends", "I", true)
  | 4 => ("DoorBench$Agenda", "ties", "I", true)
  | 5 => ("DoorBench$Agenda", "sets", "[I", true)
  | 6 => ("DoorBench$Agenda", "blocks", "I", true)
  | 7 => ("DoorBench$Agenda", "whole", "J", true)
  | 8 => ("DoorBench$Agenda", "keeping", "[J", true)
  | 9 => ("DoorBench$Agenda", "lawfulBits", "[J", true)
  | 10 => ("DoorBench$Agenda", "spans", "I", true)
  | 11 => ("DoorBench$Agenda", "yesOnes", "[J", true)
  | 12 => ("DoorBench$Agenda", "fewBits", "[J", true)
  | _ => ("DoorBench$Agenda", "few", "[I", true)
def z_Y2 : Nat → FieldType := fun k => match k with
  | 0 => .int
  | 1 => .int
  | 2 => .int
  | 3 => .int
  | 4 => .int
  | 5 => .array .int
  | 6 => .int
  | 7 => .long
  | 8 => .array .long
  | 9 => .array .long
  | 10 => .int
  | 11 => .array .long
  | 12 => .array .long
  | _ => .array .int
def z_T3 : u_T := fun k => match k with
  | 0 => ("DoorBench$Bench", "agenda", "LDoorBench$Agenda;", true)
  | 1 => ("DoorBench$Bench", "weights", "[I", true)
  | 2 => ("DoorBench$Bench", "yes", "[I", true)
  | 3 => ("DoorBench$Bench", "no", "[I", true)
  | 4 => ("DoorBench$Bench", "judges", "I", false)
  | 5 => ("DoorBench$Bench", "lean", "[I", true)
  | 6 => ("DoorBench$Bench", "lowLean", "[I", true)
  | 7 => ("DoorBench$Bench", "highLean", "[I", true)
  | 8 => ("DoorBench$Bench", "order", "[I", true)
  | 9 => ("DoorBench$Bench", "left", "[J", true)
  | 10 => ("DoorBench$Bench", "numbers", "[I", true)
  | _ => ("DoorBench$Bench", "before", "[I", true)
def z_Y3 : Nat → FieldType := fun k => match k with
  | 0 => .object "DoorBench$Agenda"
  | 1 => .array .int
  | 2 => .array .int
  | 3 => .array .int
  | 4 => .int
  | 5 => .array .int
  | 6 => .array .int
  | 7 => .array .int
  | 8 => .array .int
  | 9 => .array .long
  | 10 => .array .int
  | _ => .array .int
def z_T4 : u_T := fun k => match k with
  | 0 => ("DoorBench$Way", "kind", "I", true)
  | 1 => ("DoorBench$Way", "shift", "I", true)
  | 2 => ("DoorBench$Way", "judge", "I", true)
  | 3 => ("DoorBench$Way", "number", "I", true)
  | _ => ("DoorBench$Way", "ran", "[I", true)
def z_Y4 : Nat → FieldType := fun k => match k with
  | 0 => .int
  | 1 => .int
  | 2 => .int
  | 3 => .int
  | _ => .array .int
def z_T5 : u_T := fun k => match k with
  | 0 => ("DoorBench$Way", "kind", "I", true)
  | 1 => ("DoorBench$Way", "shift", "I", true)
  | 2 => ("DoorBench$Way", "judge", "I", true)
  | 3 => ("DoorBench$Way", "number", "I", true)
  | _ => ("DoorBench$Way", "ran", "[I", true)
def z_Y5 : Nat → FieldType := fun k => match k with
  | 0 => .int
  | 1 => .int
  | 2 => .int
  | 3 => .int
  | _ => .array .int
def z_T6 : u_T := fun k => match k with
  | 0 => ("DoorBench$Way", "kind", "I", true)
  | 1 => ("DoorBench$Way", "shift", "I", true)
  | 2 => ("DoorBench$Way", "judge", "I", true)
  | 3 => ("DoorBench$Way", "number", "I", true)
  | _ => ("DoorBench$Way", "ran", "[I", true)
def z_Y6 : Nat → FieldType := fun k => match k with
  | 0 => .int
  | 1 => .int
  | 2 => .int
  | 3 => .int
  | _ => .array .int
def z_T7 : u_T := fun k => match k with
  | 0 => ("DoorBench$Way", "kind", "I", true)
  | 1 => ("DoorBench$Way", "shift", "I", true)
  | 2 => ("DoorBench$Way", "judge", "I", true)
  | 3 => ("DoorBench$Way", "number", "I", true)
  | _ => ("DoorBench$Way", "ran", "[I", true)
def z_Y7 : Nat → FieldType := fun k => match k with
  | 0 => .int
  | 1 => .int
  | 2 => .int
  | 3 => .int
  | _ => .array .int
def z_T8 : u_T := fun k => match k with
  | 0 => ("DoorBench$Way", "kind", "I", true)
  | 1 => ("DoorBench$Way", "shift", "I", true)
  | 2 => ("DoorBench$Way", "judge", "I", true)
  | 3 => ("DoorBench$Way", "number", "I", true)
  | _ => ("DoorBench$Way", "ran", "[I", true)
def z_Y8 : Nat → FieldType := fun k => match k with
  | 0 => .int
  | 1 => .int
  | 2 => .int
  | 3 => .int
  | _ => .array .int
def z_T9 : u_T := fun k => match k with
  | 0 => ("DoorBench$Way", "kind", "I", true)
  | 1 => ("DoorBench$Way", "shift", "I", true)
  | 2 => ("DoorBench$Way", "judge", "I", true)
  | 3 => ("DoorBench$Way", "number", "I", true)
  | _ => ("DoorBench$Way", "ran", "[I", true)
def z_Y9 : Nat → FieldType := fun k => match k with
  | 0 => .int
  | 1 => .int
  | 2 => .int
  | 3 => .int
  | _ => .array .int
def z_T10 : u_T := fun k => match k with
  | 0 => ("DoorBench$Way", "kind", "I", true)
  | 1 => ("DoorBench$Way", "shift", "I", true)
  | 2 => ("DoorBench$Way", "judge", "I", true)
  | 3 => ("DoorBench$Way", "number", "I", true)
  | _ => ("DoorBench$Way", "ran", "[I", true)
def z_Y10 : Nat → FieldType := fun k => match k with
  | 0 => .int
  | 1 => .int
  | 2 => .int
  | 3 => .int
  | _ => .array .int
def z_T11 : u_T := fun k => match k with
  | 0 => ("DoorBench$Way", "kind", "I", true)
  | 1 => ("DoorBench$Way", "shift", "I", true)
  | 2 => ("DoorBench$Way", "judge", "I", true)
  | 3 => ("DoorBench$Way", "number", "I", true)
  | _ => ("DoorBench$Way", "ran", "[I", true)
def z_Y11 : Nat → FieldType := fun k => match k with
  | 0 => .int
  | 1 => .int
  | 2 => .int
  | 3 => .int
  | _ => .array .int
def z_T12 : u_T := fun k => match k with
  | 0 => ("DoorBenchModel", "tape", "[I", true)
  | 1 => ("DoorBenchModel", "tapeMany", "I", false)
  | 2 => ("DoorBenchModel", "text", "[I", true)
  | 3 => ("DoorBenchModel", "textMany", "[I", true)
  | 4 => ("DoorBenchModel", "letter", "[I", true)
  | 5 => ("DoorBenchModel", "questions", "[I", true)
  | 6 => ("DoorBenchModel", "ties", "[I", true)
  | 7 => ("DoorBenchModel", "tieAt", "[I", true)
  | 8 => ("DoorBenchModel", "premises", "[I", true)
  | 9 => ("DoorBenchModel", "endsOf", "[I", true)
  | 10 => ("DoorBenchModel", "breaks", "[I", true)
  | 11 => ("DoorBenchModel", "lawfulSets", "[I", true)
  | 12 => ("DoorBenchModel", "lawfulMany", "[I", true)
  | 13 => ("DoorBenchModel", "agendas", "I", false)
  | 14 => ("DoorBenchModel", "weight", "[I", true)
  | 15 => ("DoorBenchModel", "yesOf", "[I", true)
  | 16 => ("DoorBenchModel", "noOf", "[I", true)
  | 17 => ("DoorBenchModel", "judges", "[I", true)
  | 18 => ("DoorBenchModel", "kind", "[I", true)
  | 19 => ("DoorBenchModel", "shift", "[I", true)
  | 20 => ("DoorBenchModel", "chair", "[I", true)
  | 21 => ("DoorBenchModel", "ways", "I", false)
  | 22 => ("DoorBenchModel", "reads", "I", false)
  | 23 => ("DoorBenchModel", "isTape", "Z", false)
  | 24 => ("DoorBenchModel", "at", "I", false)
  | 25 => ("DoorBenchModel", "ends", "I", false)
  | 26 => ("DoorBenchModel", "fault", "I", false)
  | 27 => ("DoorBenchModel", "opened", "I", false)
  | 28 => ("DoorBenchModel", "set", "I", false)
  | 29 => ("DoorBenchModel", "bench", "I", false)
  | 30 => ("DoorBenchModel", "sits", "I", false)
  | 31 => ("DoorBenchModel", "sitsWeight", "[I", true)
  | 32 => ("DoorBenchModel", "sitsYes", "[I", true)
  | 33 => ("DoorBenchModel", "sitsNo", "[I", true)
  | 34 => ("DoorBenchModel", "yes", "I", false)
  | 35 => ("DoorBenchModel", "no", "I", false)
  | 36 => ("DoorBenchModel", "order", "[I", true)
  | 37 => ("DoorBenchModel", "numbers", "[I", true)
  | 38 => ("DoorBenchModel", "rowYes", "[I", true)
  | 39 => ("DoorBenchModel", "rowNo", "[I", true)
  | 40 => ("DoorBenchModel", "rowNumbers", "[I", true)
  | 41 => ("DoorBenchModel", "rowMany", "I", false)
  | 42 => ("DoorBenchModel", "mendSets", "[I", true)
  | 43 => ("DoorBenchModel", "mendMany", "I", false)
  | 44 => ("DoorBenchModel", "ordersMany", "I", false)
  | 45 => ("DoorBenchModel", "firstOrder", "I", false)
  | 46 => ("DoorBenchModel", "trace", "[I", true)
  | 47 => ("DoorBenchModel", "ran", "I", false)
  | 48 => ("DoorBenchModel", "acting", "I", false)
  | 49 => ("DoorBenchModel", "shelf", "[I", true)
  | 50 => ("DoorBenchModel", "many", "[I", true)
  | 51 => ("DoorBenchModel", "items", "[J", true)
  | _ => ("DoorBenchModel", "carried", "[J", true)
def z_Y12 : Nat → FieldType := fun k => match k with
  | 0 => .array .int
  | 1 => .int
  | 2 => .array .int
  | 3 => .array .int
  | 4 => .array .int
  | 5 => .array .int
  | 6 => .array .int
  | 7 => .array .int
  | 8 => .array .int
  | 9 => .array .int
  | 10 => .array .int
  | 11 => .array .int
  | 12 => .array .int
  | 13 => .int
  | 14 => .array .int
  | 15 => .array .int
  | 16 => .array .int
  | 17 => .array .int
  | 18 => .array .int
  | 19 => .array .int
  | 20 => .array .int
  | 21 => .int
  | 22 => .int
  | 23 => .boolean
  | 24 => .int
  | 25 => .int
  | 26 => .int
  | 27 => .int
  | 28 => .int
  | 29 => .int
  | 30 => .int
  | 31 => .array .int
  | 32 => .array .int
  | 33 => .array .int
  | 34 => .int
  | 35 => .int
  | 36 => .array .int
  | 37 => .array .int
  | 38 => .array .int
  | 39 => .array .int
  | 40 => .array .int
  | 41 => .int
  | 42 => .array .int
  | 43 => .int
  | 44 => .int
  | 45 => .int
  | 46 => .array .int
  | 47 => .int
  | 48 => .int
  | 49 => .array .int
  | 50 => .array .int
  | 51 => .array .long
  | _ => .array .long
abbrev z_cl : List vw_C := [("DoorBench", z_T0, 13), ("DoorBench$Tape", z_T1, 12), ("DoorBench$Agenda", z_T2, 14), ("DoorBench$Bench", z_T3, 12), ("DoorBench$Way", z_T4, 5), ("DoorBench$Heads", z_T5, 5), ("DoorBench$Premises", z_T6, 5), ("DoorBench$Ends", z_T7, 5), ("DoorBench$Near", z_T8, 5), ("DoorBench$Turns", z_T9, 5), ("DoorBench$Chair", z_T10, 5), ("DoorBench$Leader", z_T11, 5), ("DoorBenchModel", z_T12, 53)]
def z_tyl : List (Nat → FieldType) := [z_Y0, z_Y1, z_Y2, z_Y3, z_Y4, z_Y5, z_Y6, z_Y7, z_Y8, z_Y9, z_Y10, z_Y11, z_Y12]
def z_fty (ci k : Nat) : FieldType := ((z_tyl[ci]?).getD (fun _ => .int)) k
/-- the tables in pieces: a place is the piece times 1000 and the place in it -/
def z_tk : List (List Jvm.Cond) := [k2_sels lw_privs, tables_1_1, tables_1_2, tables_1_3, tables_1_4, tables_1_5, tables_1_6, tables_1_7, tables_1_8, z_sb16]
def z_cnl : List String := ["DoorBench", "DoorBench$Tape", "DoorBench$Agenda", "DoorBench$Bench", "DoorBench$Way", "DoorBench$Heads", "DoorBench$Premises", "DoorBench$Ends", "DoorBench$Near", "DoorBench$Turns", "DoorBench$Chair", "DoorBench$Leader", "DoorBenchModel", "DoorBenchLaw", "java/util/Arrays", "java/lang/Integer", "java/lang/Long", "java/lang/Math"]
def z_cn (c : Nat) : String := (z_cnl[c]?).getD ""
/-- the methods: name, bytes, locals, what it returns, its own class; number 0 is the law -/
def z_mq0 : List ((MethodName × ByteArray × Nat × Option FieldType × Nat) × Nat) := [((⟨"DoorBench", "<init>", "()V"⟩, prog_1_method_1_code, 1, none, 0), 1024),
  ((⟨"DoorBench$Tape", "<init>", "()V"⟩, prog_10_method_1_code, 1, none, 1), 1032),
  ((⟨"DoorBench", "feed", "(II)I"⟩, prog_1_method_2_code, 3, some (.int), 0), 1121),
  ((⟨"DoorBench$Tape", "take", "(II)Z"⟩, prog_10_method_2_code, 4, some (.boolean), 1), 1125),
  ((⟨"DoorBench", "agenda", "()I"⟩, prog_1_method_3_code, 3, some (.int), 0), 1129),
  ((⟨"DoorBench$Tape", "findFault", "()I"⟩, prog_10_method_3_code, 2, some (.int), 1), 1133),
  ((⟨"java/util/Arrays", "fill", "([II)V"⟩, prog_20_method_103_code, 4, none, 14), 1136),
  ((⟨"DoorBench$Tape", "expect", "(I)V"⟩, prog_10_method_5_code, 2, none, 1), 1140),
  ((⟨"DoorBench$Tape", "nameQuestions", "()V"⟩, prog_10_method_8_code, 3, none, 1), 1144),
  ((⟨"DoorBench$Tape", "fail", "()V"⟩, prog_10_method_6_code, 1, none, 1), 1148),
  ((⟨"DoorBench$Tape", "anotherPart", "()V"⟩, prog_10_method_9_code, 1, none, 1), 1152),
  ((⟨"DoorBench$Tape", "passes", "(I)Z"⟩, prog_10_method_4_code, 2, some (.boolean), 1), 1156),
  ((⟨"DoorBench$Tape", "someQuestions", "()I"⟩, prog_10_method_10_code, 4, some (.int), 1), 1160),
  ((⟨"DoorBench$Tape", "questionHere", "()I"⟩, prog_10_method_7_code, 2, some (.int), 1), 1164),
  ((⟨"DoorBench$Tape", "tie", "(I)J"⟩, prog_10_method_11_code, 7, some (.long), 1), 1168),
  ((⟨"DoorBench$Tape", "either", "(I)J"⟩, prog_10_method_12_code, 7, some (.long), 1), 1173),
  ((⟨"DoorBench$Tape", "simple", "(I)J"⟩, prog_10_method_13_code, 5, some (.long), 1), 1177),
  ((⟨"DoorBench$Tape", "yesSets", "(I)J"⟩, prog_10_method_14_code, 2, some (.long), 1), 1181),
  ((⟨"DoorBench$Tape", "atLeast", "(II)J"⟩, prog_10_method_15_code, 8, some (.long), 1), 1187),
  ((⟨"java/util/Arrays", "fill", "([JIIJ)V"⟩, prog_20_method_102_code, 6, none, 14), 1190),
  ((⟨"java/util/Arrays", "rangeCheck", "(III)V"⟩, prog_20_method_30_code, 3, none, 14), 1193),
  ((⟨"DoorBench$Tape", "told", "()LDoorBench$Agenda;"⟩, prog_10_method_16_code, 7, some (.object "DoorBench$Agenda"), 1), 1197),
  ((⟨"DoorBench$Agenda", "<init>", "(IIII[J)V"⟩, prog_2_method_1_code, 8, none, 2), 1202),
  ((⟨"DoorBench$Agenda", "keptWithout", "(II)J"⟩, prog_2_method_3_code, 6, some (.long), 2), 1208),
  ((⟨"java/lang/Long", "bitCount", "(J)I"⟩, prog_16_method_50_code, 2, some (.int), 16), 1211),
  ((⟨"DoorBench$Agenda", "listSets", "()V"⟩, prog_2_method_2_code, 4, none, 2), 1218),
  ((⟨"DoorBench$Agenda", "isLawful", "(I)Z"⟩, prog_2_method_7_code, 2, some (.boolean), 2), 1222),
  ((⟨"DoorBench$Agenda", "hasSet", "(I)Z"⟩, prog_2_method_5_code, 2, some (.boolean), 2), 1226),
  ((⟨"DoorBench", "found", "(LDoorBench$Agenda;)I"⟩, prog_1_method_4_code, 2, some (.int), 0), 2049),
  ((⟨"DoorBench$Agenda", "impossibleTies", "()I"⟩, prog_2_method_18_code, 6, some (.int), 2), 2053),
  ((⟨"java/lang/Integer", "bitCount", "(I)I"⟩, prog_15_method_49_code, 1, some (.int), 15), 2056),
  ((⟨"DoorBench$Agenda", "noneKeeps", "(I)Z"⟩, prog_2_method_19_code, 3, some (.boolean), 2), 2063),
  ((⟨"DoorBench$Bench", "<init>", "(LDoorBench$Agenda;)V"⟩, prog_3_method_1_code, 2, none, 3), 2067),
  ((⟨"DoorBench", "of", "(II)I"⟩, prog_1_method_5_code, 4, some (.int), 0), 2130),
  ((⟨"DoorBench", "benchOf", "(I)LDoorBench$Bench;"⟩, prog_1_method_45_code, 2, some (.object "DoorBench$Bench"), 0), 2134),
  ((⟨"DoorBench", "lawful", "(II)I"⟩, prog_1_method_6_code, 4, some (.int), 0), 2138),
  ((⟨"DoorBench", "agendaOf", "(I)LDoorBench$Agenda;"⟩, prog_1_method_46_code, 2, some (.object "DoorBench$Agenda"), 0), 2142),
  ((⟨"DoorBench", "broken", "(II)I"⟩, prog_1_method_7_code, 4, some (.int), 0), 2146),
  ((⟨"DoorBench$Agenda", "answersOf", "(I)I"⟩, prog_2_method_8_code, 2, some (.int), 2), 2151),
  ((⟨"DoorBench$Agenda", "tiesBrokenBy", "(I)I"⟩, prog_2_method_16_code, 7, some (.int), 2), 2155)]
def z_mq1 : List ((MethodName × ByteArray × Nat × Option FieldType × Nat) × Nat) := [((⟨"DoorBench$Agenda", "setsHaving", "(II)J"⟩, prog_2_method_17_code, 9, some (.long), 2), 2159),
  ((⟨"DoorBench", "stands", "(III)I"⟩, prog_1_method_8_code, 5, some (.int), 0), 2164),
  ((⟨"DoorBench$Agenda", "canBeTold", "(II)Z"⟩, prog_2_method_6_code, 3, some (.boolean), 2), 2168),
  ((⟨"DoorBench$Agenda", "canStand", "(I)Z"⟩, prog_2_method_13_code, 3, some (.boolean), 2), 2172),
  ((⟨"DoorBench$Agenda", "having", "(II)J"⟩, prog_2_method_12_code, 6, some (.long), 2), 2176),
  ((⟨"DoorBench$Agenda", "wholeSpan", "(I)J"⟩, prog_2_method_10_code, 3, some (.long), 2), 2180),
  ((⟨"DoorBench", "forced", "(IIII)I"⟩, prog_1_method_9_code, 7, some (.int), 0), 2184),
  ((⟨"DoorBench$Agenda", "hasQuestion", "(I)Z"⟩, prog_2_method_4_code, 2, some (.boolean), 2), 2188),
  ((⟨"DoorBench$Agenda", "implied", "(I)I"⟩, prog_2_method_14_code, 10, some (.int), 2), 2192),
  ((⟨"DoorBench", "why", "(III)I"⟩, prog_1_method_10_code, 6, some (.int), 0), 2196),
  ((⟨"DoorBench$Agenda", "smallestFallen", "(I)I"⟩, prog_2_method_15_code, 7, some (.int), 2), 2200),
  ((⟨"DoorBench", "judge", "(IIII)I"⟩, prog_1_method_11_code, 6, some (.int), 0), 2205),
  ((⟨"DoorBench$Bench", "seat", "(III)V"⟩, prog_3_method_4_code, 4, none, 3), 2209),
  ((⟨"DoorBench$Bench", "alter", "(III)V"⟩, prog_3_method_5_code, 8, none, 3), 2213),
  ((⟨"DoorBench", "change", "(IIII)I"⟩, prog_1_method_12_code, 6, some (.int), 0), 2217),
  ((⟨"DoorBench$Bench", "hasJudge", "(I)Z"⟩, prog_3_method_2_code, 2, some (.boolean), 3), 2221),
  ((⟨"DoorBench", "read", "(IIII)I"⟩, prog_1_method_13_code, 7, some (.int), 0), 2226),
  ((⟨"DoorBench", "isShelf", "(I)Z"⟩, prog_1_method_48_code, 1, some (.boolean), 0), 2229),
  ((⟨"DoorBench", "answersFrom", "(III)I"⟩, prog_1_method_14_code, 7, some (.int), 0), 2233),
  ((⟨"DoorBench", "clear", "(I)I"⟩, prog_1_method_15_code, 4, some (.int), 0), 2238),
  ((⟨"DoorBench$Bench", "dismiss", "()V"⟩, prog_3_method_6_code, 1, none, 3), 3002),
  ((⟨"DoorBench", "ofJudge", "(III)I"⟩, prog_1_method_16_code, 5, some (.int), 0), 3007),
  ((⟨"DoorBench", "votes", "(III)I"⟩, prog_1_method_17_code, 5, some (.int), 0), 3011),
  ((⟨"DoorBench", "isEither", "(I)Z"⟩, prog_1_method_49_code, 1, some (.boolean), 0), 3014),
  ((⟨"DoorBench$Bench", "weightOn", "(I[I)I"⟩, prog_3_method_7_code, 5, some (.int), 3), 3018),
  ((⟨"DoorBench", "far", "(II)I"⟩, prog_1_method_18_code, 4, some (.int), 0), 3022),
  ((⟨"DoorBench$Bench", "distance", "(I)I"⟩, prog_3_method_8_code, 4, some (.int), 3), 3026),
  ((⟨"DoorBench", "nearest", "(II)I"⟩, prog_1_method_19_code, 4, some (.int), 0), 3031),
  ((⟨"DoorBench$Bench", "nearestAt", "(I)I"⟩, prog_3_method_13_code, 6, some (.int), 3), 3035),
  ((⟨"DoorBench$Bench", "sumLeans", "()V"⟩, prog_3_method_11_code, 3, none, 3), 3039),
  ((⟨"java/lang/Integer", "numberOfTrailingZeros", "(I)I"⟩, prog_15_method_48_code, 2, some (.int), 15), 3045),
  ((⟨"DoorBench$Bench", "leanOf", "(I)I"⟩, prog_3_method_10_code, 2, some (.int), 3), 3053),
  ((⟨"DoorBench", "way", "(III)I"⟩, prog_1_method_20_code, 6, some (.int), 0), 3057),
  ((⟨"DoorBench", "bodyOf", "(III)LDoorBench$Way;"⟩, prog_1_method_21_code, 4, some (.object "DoorBench$Way"), 0), 3063),
  ((⟨"DoorBench$Heads", "<init>", "(II[I)V"⟩, prog_6_method_1_code, 4, none, 5), 3068),
  ((⟨"DoorBench$Way", "<init>", "(II[III)V"⟩, prog_12_method_1_code, 6, none, 4), 3071),
  ((⟨"DoorBench$Premises", "<init>", "(II[I)V"⟩, prog_9_method_1_code, 4, none, 6), 3102),
  ((⟨"DoorBench$Ends", "<init>", "(II[I)V"⟩, prog_5_method_1_code, 4, none, 7), 3114),
  ((⟨"DoorBench$Near", "<init>", "(II[I)V"⟩, prog_8_method_1_code, 4, none, 8), 3126),
  ((⟨"DoorBench$Turns", "<init>", "(II[III)V"⟩, prog_11_method_1_code, 6, none, 9), 3138)]
def z_mq2 : List ((MethodName × ByteArray × Nat × Option FieldType × Nat) × Nat) := [((⟨"DoorBench$Chair", "<init>", "(II[III)V"⟩, prog_4_method_1_code, 6, none, 10), 3150),
  ((⟨"DoorBench$Leader", "<init>", "(II[III)V"⟩, prog_7_method_1_code, 6, none, 11), 3162),
  ((⟨"DoorBench", "ofWay", "(II)I"⟩, prog_1_method_22_code, 4, some (.int), 0), 3181),
  ((⟨"DoorBench", "bodyAt", "(I)LDoorBench$Way;"⟩, prog_1_method_47_code, 2, some (.object "DoorBench$Way"), 0), 3185),
  ((⟨"DoorBench", "outcome", "(III)I"⟩, prog_1_method_23_code, 7, some (.int), 0), 3189),
  ((⟨"DoorBench$Turns", "decide", "(LDoorBench$Bench;)I"⟩, prog_11_method_2_code, 2, some (.int), 9), 3196),
  ((⟨"DoorBench$Bench", "orderFrom", "(I)V"⟩, prog_3_method_14_code, 4, none, 3), 3200),
  ((⟨"DoorBench$Chair", "openYes", "(LDoorBench$Bench;)I"⟩, prog_4_method_2_code, 2, some (.int), 10), 3207),
  ((⟨"DoorBench$Turns", "openYes", "(LDoorBench$Bench;)I"⟩, prog_11_method_3_code, 2, some (.int), 9), 3209),
  ((⟨"DoorBench$Bench", "inTurns", "(I)I"⟩, prog_3_method_15_code, 7, some (.int), 3), 3213),
  ((⟨"DoorBench$Bench", "isYesInTurn", "(IZ)Z"⟩, prog_3_method_16_code, 6, some (.boolean), 3), 3218),
  ((⟨"DoorBench$Agenda", "answering", "(IZI)J"⟩, prog_2_method_11_code, 6, some (.long), 2), 3222),
  ((⟨"DoorBench$Ends", "decide", "(LDoorBench$Bench;)I"⟩, prog_5_method_2_code, 5, some (.int), 7), 3225),
  ((⟨"DoorBench$Agenda", "both", "(I)I"⟩, prog_2_method_9_code, 1, some (.int), 2), 3228),
  ((⟨"DoorBench$Bench", "byHeads", "()I"⟩, prog_3_method_9_code, 3, some (.int), 3), 3232),
  ((⟨"DoorBench$Bench", "nearestWith", "(I)I"⟩, prog_3_method_12_code, 10, some (.int), 3), 3236),
  ((⟨"DoorBench$Heads", "decide", "(LDoorBench$Bench;)I"⟩, prog_6_method_2_code, 2, some (.int), 5), 4002),
  ((⟨"DoorBench$Leader", "decide", "(LDoorBench$Bench;)I"⟩, prog_7_method_2_code, 4, some (.int), 11), 4006),
  ((⟨"DoorBench$Near", "decide", "(LDoorBench$Bench;)I"⟩, prog_8_method_2_code, 2, some (.int), 8), 4011),
  ((⟨"DoorBench$Premises", "decide", "(LDoorBench$Bench;)I"⟩, prog_9_method_2_code, 5, some (.int), 6), 4017),
  ((⟨"DoorBench$Way", "decide", "(LDoorBench$Bench;)I"⟩, prog_12_method_3_code, 2, some (.int), 4), 4022),
  ((⟨"DoorBench", "benches", "(II)I"⟩, prog_1_method_24_code, 4, some (.int), 0), 4026),
  ((⟨"DoorBench", "refusalOfAll", "(II)I"⟩, prog_1_method_50_code, 4, some (.int), 0), 4030),
  ((⟨"DoorBench$Bench", "manyOf", "(I)I"⟩, prog_3_method_21_code, 2, some (.int), 3), 4034),
  ((⟨"DoorBench", "choose", "(II)I"⟩, prog_1_method_54_code, 2, some (.int), 0), 4037),
  ((⟨"DoorBench", "unlawful", "(IIII)I"⟩, prog_1_method_25_code, 7, some (.int), 0), 4043),
  ((⟨"DoorBench$Way", "unlawfulOnes", "(LDoorBench$Bench;IZ)I"⟩, prog_12_method_9_code, 7, some (.int), 4), 4055),
  ((⟨"DoorBench$Bench", "sitFirst", "(I)I"⟩, prog_3_method_22_code, 3, some (.int), 3), 4059),
  ((⟨"DoorBench$Bench", "toldNumbers", "()I"⟩, prog_3_method_25_code, 3, some (.int), 3), 4068),
  ((⟨"DoorBench$Bench", "sitNext", "()V"⟩, prog_3_method_23_code, 5, none, 3), 4072),
  ((⟨"DoorBench$Bench", "settle", "()V"⟩, prog_3_method_24_code, 3, none, 3), 4076),
  ((⟨"DoorBench", "unlike", "(IIIII)I"⟩, prog_1_method_26_code, 9, some (.int), 0), 4080),
  ((⟨"DoorBench$Way", "unlikeOnes", "(LDoorBench$Way;LDoorBench$Bench;IZ)I"⟩, prog_12_method_10_code, 8, some (.int), 4), 4092),
  ((⟨"DoorBench", "sway", "(IIII)I"⟩, prog_1_method_27_code, 8, some (.int), 0), 4096),
  ((⟨"DoorBench$Way", "yesOnes", "(LDoorBench$Bench;II)I"⟩, prog_12_method_11_code, 7, some (.int), 4), 4108),
  ((⟨"DoorBench", "twist", "(III)I"⟩, prog_1_method_28_code, 6, some (.int), 0), 4112),
  ((⟨"DoorBench$Bench", "isSilent", "(I)Z"⟩, prog_3_method_3_code, 2, some (.boolean), 3), 4116),
  ((⟨"DoorBench$Way", "bestTwist", "(LDoorBench$Bench;I)I"⟩, prog_12_method_12_code, 11, some (.int), 4), 4128),
  ((⟨"DoorBench", "twisted", "(III)I"⟩, prog_1_method_29_code, 6, some (.int), 0), 4135),
  ((⟨"DoorBench$Way", "twistedOnes", "(LDoorBench$Bench;I[I)I"⟩, prog_12_method_13_code, 10, some (.int), 4), 4147)]
def z_mq3 : List ((MethodName × ByteArray × Nat × Option FieldType × Nat) × Nat) := [((⟨"DoorBench$Bench", "rank", "()I"⟩, prog_3_method_26_code, 3, some (.int), 3), 4152),
  ((⟨"DoorBench$Way", "recall", "(LDoorBench$Bench;I[I)I"⟩, prog_12_method_15_code, 5, some (.int), 4), 4156),
  ((⟨"DoorBench$Chair", "placeOf", "(LDoorBench$Bench;I)I"⟩, prog_4_method_3_code, 4, some (.int), 10), 4163),
  ((⟨"DoorBench$Leader", "placeOf", "(LDoorBench$Bench;I)I"⟩, prog_7_method_3_code, 3, some (.int), 11), 4168),
  ((⟨"DoorBench$Way", "placeOf", "(LDoorBench$Bench;I)I"⟩, prog_12_method_16_code, 3, some (.int), 4), 4172),
  ((⟨"DoorBench$Way", "twists", "(LDoorBench$Bench;II[I)Z"⟩, prog_12_method_14_code, 13, some (.boolean), 4), 4177),
  ((⟨"DoorBench$Bench", "rankOfOthers", "(I)I"⟩, prog_3_method_28_code, 4, some (.int), 3), 4181),
  ((⟨"DoorBench$Bench", "otherThan", "(II)I"⟩, prog_3_method_27_code, 3, some (.int), 3), 4185),
  ((⟨"DoorBench", "breach", "(IIII)I"⟩, prog_1_method_30_code, 7, some (.int), 0), 4191),
  ((⟨"DoorBench", "refusalOfRows", "(II)I"⟩, prog_1_method_51_code, 4, some (.int), 0), 4195),
  ((⟨"DoorBench$Way", "decideRows", "(LDoorBench$Bench;I[I)V"⟩, prog_12_method_17_code, 6, none, 4), 4207),
  ((⟨"DoorBench$Bench", "manyRows", "()I"⟩, prog_3_method_29_code, 3, some (.int), 3), 4211),
  ((⟨"DoorBench$Bench", "sitRow", "(I)V"⟩, prog_3_method_32_code, 2, none, 3), 4215),
  ((⟨"DoorBench$Bench", "numberAll", "(I)V"⟩, prog_3_method_31_code, 3, none, 3), 4219),
  ((⟨"DoorBench$Bench", "numberIn", "(II)I"⟩, prog_3_method_30_code, 6, some (.int), 3), 4223),
  ((⟨"DoorBench$Bench", "breachOf", "(I[I)I"⟩, prog_3_method_34_code, 4, some (.int), 3), 4227),
  ((⟨"DoorBench$Bench", "firstUnalike", "([II)I"⟩, prog_3_method_35_code, 4, some (.int), 3), 4232),
  ((⟨"DoorBench$Bench", "rowInOrder", "(I)I"⟩, prog_3_method_36_code, 6, some (.int), 3), 4236),
  ((⟨"DoorBench$Bench", "firstNotOwn", "([II)I"⟩, prog_3_method_37_code, 7, some (.int), 3), 5000),
  ((⟨"DoorBench$Bench", "whoSaysYes", "(I)I"⟩, prog_3_method_38_code, 4, some (.int), 3), 5004),
  ((⟨"DoorBench$Bench", "firstOtherMind", "([II)I"⟩, prog_3_method_39_code, 7, some (.int), 3), 5008),
  ((⟨"DoorBench$Bench", "firstUnlawful", "([II)I"⟩, prog_3_method_40_code, 4, some (.int), 3), 5013),
  ((⟨"DoorBench$Bench", "firstSomebody", "([II)I"⟩, prog_3_method_41_code, 6, some (.int), 3), 5018),
  ((⟨"DoorBench", "keeper", "(III)I"⟩, prog_1_method_31_code, 6, some (.int), 0), 5022),
  ((⟨"DoorBench$Bench", "keepsAll", "(I[I)Z"⟩, prog_3_method_33_code, 4, some (.boolean), 3), 5026),
  ((⟨"DoorBench", "mend", "(III)I"⟩, prog_1_method_32_code, 5, some (.int), 0), 5031),
  ((⟨"DoorBench$Agenda", "mendBy", "(II)I"⟩, prog_2_method_20_code, 8, some (.int), 2), 5035),
  ((⟨"DoorBench$Agenda", "isSafeWithout", "(II)Z"⟩, prog_2_method_21_code, 4, some (.boolean), 2), 5039),
  ((⟨"DoorBench$Agenda", "listFew", "(I)I"⟩, prog_2_method_22_code, 8, some (.int), 2), 5043),
  ((⟨"java/lang/Long", "numberOfTrailingZeros", "(J)I"⟩, prog_16_method_49_code, 3, some (.int), 16), 5046),
  ((⟨"DoorBench$Agenda", "foursStand", "(I)Z"⟩, prog_2_method_24_code, 12, some (.boolean), 2), 5051),
  ((⟨"DoorBench$Agenda", "someOfFew", "(III)Z"⟩, prog_2_method_25_code, 5, some (.boolean), 2), 5055),
  ((⟨"DoorBench$Agenda", "threesStand", "(I)Z"⟩, prog_2_method_23_code, 8, some (.boolean), 2), 5059),
  ((⟨"DoorBench", "orders", "(III)I"⟩, prog_1_method_33_code, 5, some (.int), 0), 5063),
  ((⟨"DoorBench$Bench", "ordersFor", "(IZ)I"⟩, prog_3_method_17_code, 6, some (.int), 3), 5067),
  ((⟨"DoorBench$Bench", "orderDigits", "()I"⟩, prog_3_method_18_code, 3, some (.int), 3), 5073),
  ((⟨"DoorBench$Bench", "nextOrder", "()V"⟩, prog_3_method_19_code, 6, none, 3), 5077),
  ((⟨"DoorBench$Bench", "swapOrder", "(II)V"⟩, prog_3_method_20_code, 4, none, 3), 5081),
  ((⟨"DoorBench", "act", "(III)I"⟩, prog_1_method_34_code, 5, some (.int), 0), 5085),
  ((⟨"DoorBench$Heads", "counts", "(I)I"⟩, prog_6_method_3_code, 2, some (.int), 5), 5093)]
def z_mq4 : List ((MethodName × ByteArray × Nat × Option FieldType × Nat) × Nat) := [((⟨"DoorBench$Way", "note", "(I)V"⟩, prog_12_method_4_code, 2, none, 4), 5101),
  ((⟨"DoorBench$Near", "counts", "(I)I"⟩, prog_8_method_3_code, 2, some (.int), 8), 5107),
  ((⟨"DoorBench$Way", "counts", "(I)I"⟩, prog_12_method_5_code, 2, some (.int), 4), 5114),
  ((⟨"DoorBench$Chair", "weighs", "(I)I"⟩, prog_4_method_5_code, 2, some (.int), 10), 5122),
  ((⟨"DoorBench$Turns", "weighs", "(I)I"⟩, prog_11_method_4_code, 2, some (.int), 9), 5128),
  ((⟨"DoorBench$Premises", "weighs", "(I)I"⟩, prog_9_method_3_code, 2, some (.int), 6), 5140),
  ((⟨"DoorBench$Way", "weighs", "(I)I"⟩, prog_12_method_6_code, 2, some (.int), 4), 5152),
  ((⟨"DoorBench$Chair", "binds", "(I)I"⟩, prog_4_method_4_code, 2, some (.int), 10), 5160),
  ((⟨"DoorBench$Ends", "binds", "(I)I"⟩, prog_5_method_3_code, 2, some (.int), 7), 5166),
  ((⟨"DoorBench$Way", "binds", "(I)I"⟩, prog_12_method_7_code, 2, some (.int), 4), 5177),
  ((⟨"DoorBench$Turns", "tells", "(I)I"⟩, prog_11_method_5_code, 2, some (.int), 9), 5184),
  ((⟨"DoorBench$Leader", "tells", "(I)I"⟩, prog_7_method_4_code, 2, some (.int), 11), 5190),
  ((⟨"DoorBench$Way", "tells", "(I)I"⟩, prog_12_method_8_code, 2, some (.int), 4), 5199),
  ((⟨"DoorBench", "trace", "(I)I"⟩, prog_1_method_35_code, 2, some (.int), 0), 5205),
  ((⟨"DoorBench", "keep", "(II)I"⟩, prog_1_method_36_code, 3, some (.int), 0), 5209),
  ((⟨"DoorBench", "row", "(III)I"⟩, prog_1_method_37_code, 4, some (.int), 0), 5213),
  ((⟨"DoorBench", "put", "(IIJ)I"⟩, prog_1_method_38_code, 6, some (.int), 0), 5218),
  ((⟨"DoorBench", "refusalOfPlace", "(II)I"⟩, prog_1_method_52_code, 3, some (.int), 0), 5222),
  ((⟨"DoorBench", "lowestBits", "(IJ)J"⟩, prog_1_method_39_code, 3, some (.long), 0), 5225),
  ((⟨"DoorBench", "element", "(II)J"⟩, prog_1_method_40_code, 3, some (.long), 0), 5229),
  ((⟨"DoorBench", "shift", "(IIIII)I"⟩, prog_1_method_41_code, 6, some (.int), 0), 5234),
  ((⟨"DoorBench", "hasPlaces", "(III)Z"⟩, prog_1_method_53_code, 4, some (.boolean), 0), 5238),
  ((⟨"DoorBench", "taken", "(II)I"⟩, prog_1_method_42_code, 4, some (.int), 0), 6005),
  ((⟨"DoorBench$Way", "isUnder", "(I)Z"⟩, prog_12_method_2_code, 4, some (.boolean), 4), 6017),
  ((⟨"DoorBench", "count", "(I)I"⟩, prog_1_method_43_code, 2, some (.int), 0), 6022),
  ((⟨"DoorBench", "allJudges", "()I"⟩, prog_1_method_44_code, 3, some (.int), 0), 6026),
  ((⟨"DoorBenchModel", "<init>", "()V"⟩, prog_14_method_1_code, 2, none, 12), 6031),
  ((⟨"DoorBenchModel", "feed", "(II)I"⟩, prog_14_method_4_code, 4, some (.int), 12), 6196),
  ((⟨"DoorBenchModel", "within", "(JJJ)Z"⟩, prog_14_method_2_code, 6, some (.boolean), 12), 6200),
  ((⟨"DoorBenchModel", "agenda", "()I"⟩, prog_14_method_22_code, 6, some (.int), 12), 6204),
  ((⟨"DoorBenchModel", "firstPart", "()V"⟩, prog_14_method_17_code, 5, none, 12), 6208),
  ((⟨"DoorBenchModel", "takes", "(I)Z"⟩, prog_14_method_7_code, 2, some (.boolean), 12), 6212),
  ((⟨"DoorBenchModel", "byteAt", "()I"⟩, prog_14_method_5_code, 1, some (.int), 12), 6216),
  ((⟨"DoorBenchModel", "wrong", "()Z"⟩, prog_14_method_6_code, 1, some (.boolean), 12), 6220),
  ((⟨"DoorBenchModel", "questionOf", "(I)I"⟩, prog_14_method_8_code, 3, some (.int), 12), 6226),
  ((⟨"DoorBenchModel", "otherPart", "()V"⟩, prog_14_method_18_code, 4, none, 12), 6230),
  ((⟨"DoorBenchModel", "letters", "()I"⟩, prog_14_method_16_code, 5, some (.int), 12), 6234),
  ((⟨"DoorBenchModel", "alike", "()Z"⟩, prog_14_method_9_code, 3, some (.boolean), 12), 6238),
  ((⟨"DoorBenchModel", "implied", "()Z"⟩, prog_14_method_10_code, 3, some (.boolean), 12), 7002),
  ((⟨"DoorBenchModel", "either", "()Z"⟩, prog_14_method_11_code, 3, some (.boolean), 12), 7006)]
def z_mq5 : List ((MethodName × ByteArray × Nat × Option FieldType × Nat) × Nat) := [((⟨"DoorBenchModel", "both", "()Z"⟩, prog_14_method_12_code, 3, some (.boolean), 12), 7010),
  ((⟨"DoorBenchModel", "one", "()Z"⟩, prog_14_method_14_code, 3, some (.boolean), 12), 7014),
  ((⟨"DoorBenchModel", "opens", "()Z"⟩, prog_14_method_13_code, 1, some (.boolean), 12), 7018),
  ((⟨"DoorBenchModel", "atLeast", "(I)Z"⟩, prog_14_method_15_code, 4, some (.boolean), 12), 7024),
  ((⟨"DoorBenchModel", "keeps", "(III)Z"⟩, prog_14_method_19_code, 4, some (.boolean), 12), 7028),
  ((⟨"DoorBenchModel", "smallestPart", "(I)I"⟩, prog_14_method_21_code, 6, some (.int), 12), 7032),
  ((⟨"DoorBenchModel", "countOf", "(I)I"⟩, prog_14_method_20_code, 3, some (.int), 12), 7035),
  ((⟨"DoorBenchModel", "of", "(II)I"⟩, prog_14_method_23_code, 3, some (.int), 12), 7039),
  ((⟨"DoorBenchModel", "isAgenda", "(I)Z"⟩, prog_14_method_3_code, 2, some (.boolean), 12), 7043),
  ((⟨"DoorBenchModel", "lawful", "(II)I"⟩, prog_14_method_24_code, 3, some (.int), 12), 7047),
  ((⟨"DoorBenchModel", "broken", "(II)I"⟩, prog_14_method_26_code, 3, some (.int), 12), 7051),
  ((⟨"DoorBenchModel", "isSet", "(II)Z"⟩, prog_14_method_25_code, 3, some (.boolean), 12), 7055),
  ((⟨"DoorBenchModel", "stands", "(III)I"⟩, prog_14_method_30_code, 4, some (.int), 12), 7059),
  ((⟨"DoorBenchModel", "areAnswers", "(III)Z"⟩, prog_14_method_27_code, 4, some (.boolean), 12), 7063),
  ((⟨"DoorBenchModel", "canStand", "(III)Z"⟩, prog_14_method_29_code, 6, some (.boolean), 12), 7067),
  ((⟨"DoorBenchModel", "hasThese", "(III)Z"⟩, prog_14_method_28_code, 3, some (.boolean), 12), 7070),
  ((⟨"DoorBenchModel", "forced", "(IIII)I"⟩, prog_14_method_33_code, 5, some (.int), 12), 7074),
  ((⟨"DoorBenchModel", "isQuestion", "(II)Z"⟩, prog_14_method_32_code, 3, some (.boolean), 12), 7078),
  ((⟨"DoorBenchModel", "forcedBy", "(IIII)I"⟩, prog_14_method_31_code, 9, some (.int), 12), 7082),
  ((⟨"DoorBenchModel", "why", "(III)I"⟩, prog_14_method_34_code, 9, some (.int), 12), 7086),
  ((⟨"DoorBenchModel", "judge", "(IIII)I"⟩, prog_14_method_36_code, 6, some (.int), 12), 7090),
  ((⟨"DoorBenchModel", "change", "(IIII)I"⟩, prog_14_method_37_code, 5, some (.int), 12), 7095),
  ((⟨"DoorBenchModel", "isJudge", "(II)Z"⟩, prog_14_method_35_code, 3, some (.boolean), 12), 7099),
  ((⟨"DoorBenchModel", "read", "(IIII)I"⟩, prog_14_method_38_code, 12, some (.int), 12), 7103),
  ((⟨"DoorBenchModel", "isShelf", "(I)Z"⟩, prog_14_method_97_code, 1, some (.boolean), 12), 7106),
  ((⟨"DoorBenchModel", "clear", "(I)I"⟩, prog_14_method_39_code, 3, some (.int), 12), 7111),
  ((⟨"DoorBenchModel", "ofJudge", "(III)I"⟩, prog_14_method_40_code, 5, some (.int), 12), 7115),
  ((⟨"DoorBenchModel", "votes", "(III)I"⟩, prog_14_method_47_code, 4, some (.int), 12), 7120),
  ((⟨"DoorBenchModel", "sitDown", "(I)V"⟩, prog_14_method_41_code, 3, none, 12), 7124),
  ((⟨"DoorBenchModel", "votesFor", "(II)I"⟩, prog_14_method_44_code, 5, some (.int), 12), 7128),
  ((⟨"DoorBenchModel", "far", "(II)I"⟩, prog_14_method_48_code, 3, some (.int), 12), 7132),
  ((⟨"DoorBenchModel", "farFrom", "(I)I"⟩, prog_14_method_46_code, 4, some (.int), 12), 7136),
  ((⟨"DoorBenchModel", "nearest", "(II)I"⟩, prog_14_method_49_code, 7, some (.int), 12), 7140),
  ((⟨"DoorBenchModel", "nearestOf", "(II)I"⟩, prog_14_method_50_code, 6, some (.int), 12), 7144),
  ((⟨"DoorBenchModel", "way", "(III)I"⟩, prog_14_method_51_code, 4, some (.int), 12), 7148),
  ((⟨"DoorBenchModel", "ofWay", "(II)I"⟩, prog_14_method_53_code, 3, some (.int), 12), 7154),
  ((⟨"DoorBenchModel", "isWay", "(I)Z"⟩, prog_14_method_52_code, 2, some (.boolean), 12), 7158),
  ((⟨"DoorBenchModel", "outcome", "(III)I"⟩, prog_14_method_63_code, 4, some (.int), 12), 7162),
  ((⟨"DoorBenchModel", "find", "(I)V"⟩, prog_14_method_60_code, 3, none, 12), 7166),
  ((⟨"DoorBenchModel", "all", "()I"⟩, prog_14_method_42_code, 1, some (.int), 12), 7170)]
def z_mq6 : List ((MethodName × ByteArray × Nat × Option FieldType × Nat) × Nat) := [((⟨"DoorBenchModel", "byHeads", "(I)V"⟩, prog_14_method_55_code, 3, none, 12), 7174),
  ((⟨"DoorBenchModel", "heads", "(I)I"⟩, prog_14_method_45_code, 4, some (.int), 12), 7178),
  ((⟨"DoorBenchModel", "answer", "(II)V"⟩, prog_14_method_54_code, 3, none, 12), 7182),
  ((⟨"DoorBenchModel", "byPremises", "()V"⟩, prog_14_method_56_code, 4, none, 12), 7186),
  ((⟨"DoorBenchModel", "byEnds", "()V"⟩, prog_14_method_57_code, 3, none, 12), 7190),
  ((⟨"DoorBenchModel", "byTurns", "(I)V"⟩, prog_14_method_58_code, 6, none, 12), 7194),
  ((⟨"DoorBenchModel", "byLeader", "(I)V"⟩, prog_14_method_59_code, 3, none, 12), 7198),
  ((⟨"DoorBenchModel", "brokenBy", "()I"⟩, prog_14_method_61_code, 3, some (.int), 12), 7202),
  ((⟨"DoorBenchModel", "isUnlawful", "()Z"⟩, prog_14_method_62_code, 1, some (.boolean), 12), 7206),
  ((⟨"DoorBenchModel", "benches", "(II)I"⟩, prog_14_method_69_code, 6, some (.int), 12), 7210),
  ((⟨"DoorBenchModel", "noBenches", "(II)I"⟩, prog_14_method_68_code, 3, some (.int), 12), 7214),
  ((⟨"DoorBenchModel", "begin", "(II)V"⟩, prog_14_method_64_code, 4, none, 12), 7218),
  ((⟨"DoorBenchModel", "seatAll", "()V"⟩, prog_14_method_65_code, 2, none, 12), 7222),
  ((⟨"DoorBenchModel", "seat", "(II)V"⟩, prog_14_method_43_code, 3, none, 12), 7226),
  ((⟨"DoorBenchModel", "goOn", "(Z)Z"⟩, prog_14_method_66_code, 5, some (.boolean), 12), 7230),
  ((⟨"DoorBenchModel", "unlawful", "(IIII)I"⟩, prog_14_method_70_code, 10, some (.int), 12), 7234),
  ((⟨"DoorBenchModel", "code", "()I"⟩, prog_14_method_67_code, 3, some (.int), 12), 7238),
  ((⟨"DoorBenchModel", "unlike", "(IIIII)I"⟩, prog_14_method_71_code, 13, some (.int), 12), 8002),
  ((⟨"DoorBenchModel", "sway", "(IIII)I"⟩, prog_14_method_72_code, 8, some (.int), 12), 8006),
  ((⟨"DoorBenchModel", "twist", "(III)I"⟩, prog_14_method_75_code, 4, some (.int), 12), 8010),
  ((⟨"DoorBenchModel", "twistOf", "(II)I"⟩, prog_14_method_74_code, 9, some (.int), 12), 8014),
  ((⟨"DoorBenchModel", "apart", "(I)I"⟩, prog_14_method_73_code, 2, some (.int), 12), 8018),
  ((⟨"DoorBenchModel", "twisted", "(III)I"⟩, prog_14_method_76_code, 9, some (.int), 12), 8022),
  ((⟨"DoorBenchModel", "breach", "(IIII)I"⟩, prog_14_method_83_code, 5, some (.int), 12), 8026),
  ((⟨"DoorBenchModel", "breachOf", "(IIII)I"⟩, prog_14_method_82_code, 8, some (.int), 12), 8031),
  ((⟨"DoorBenchModel", "findRows", "(III)V"⟩, prog_14_method_77_code, 6, none, 12), 8035),
  ((⟨"DoorBenchModel", "setOf", "(II)I"⟩, prog_14_method_78_code, 3, some (.int), 12), 8039),
  ((⟨"DoorBenchModel", "sortedRow", "(II)I"⟩, prog_14_method_79_code, 7, some (.int), 12), 8043),
  ((⟨"DoorBenchModel", "isOwn", "(II)Z"⟩, prog_14_method_80_code, 8, some (.boolean), 12), 8047),
  ((⟨"DoorBenchModel", "isMinded", "(II)Z"⟩, prog_14_method_81_code, 5, some (.boolean), 12), 8051),
  ((⟨"DoorBenchModel", "keeper", "(III)I"⟩, prog_14_method_84_code, 7, some (.int), 12), 8055),
  ((⟨"DoorBenchModel", "mend", "(III)I"⟩, prog_14_method_86_code, 8, some (.int), 12), 8060),
  ((⟨"DoorBenchModel", "mends", "(III)Z"⟩, prog_14_method_85_code, 10, some (.boolean), 12), 8064),
  ((⟨"DoorBenchModel", "orders", "(III)I"⟩, prog_14_method_88_code, 4, some (.int), 12), 8068),
  ((⟨"DoorBenchModel", "tryOrders", "(IIII)V"⟩, prog_14_method_87_code, 6, none, 12), 8072),
  ((⟨"DoorBenchModel", "act", "(III)I"⟩, prog_14_method_95_code, 4, some (.int), 12), 8076),
  ((⟨"DoorBenchModel", "counts", "(II)I"⟩, prog_14_method_91_code, 3, some (.int), 12), 8080),
  ((⟨"DoorBenchModel", "ranBody", "(I)V"⟩, prog_14_method_90_code, 2, none, 12), 8084),
  ((⟨"DoorBenchModel", "above", "(I)I"⟩, prog_14_method_89_code, 1, some (.int), 12), 8087),
  ((⟨"DoorBenchModel", "weighs", "(II)I"⟩, prog_14_method_92_code, 4, some (.int), 12), 8091)]
def z_mq7 : List ((MethodName × ByteArray × Nat × Option FieldType × Nat) × Nat) := [((⟨"DoorBenchModel", "binds", "(II)I"⟩, prog_14_method_93_code, 3, some (.int), 12), 8095),
  ((⟨"DoorBenchModel", "tells", "(II)I"⟩, prog_14_method_94_code, 4, some (.int), 12), 8099),
  ((⟨"DoorBenchModel", "trace", "(I)I"⟩, prog_14_method_96_code, 2, some (.int), 12), 8103),
  ((⟨"DoorBenchModel", "keep", "(II)I"⟩, prog_14_method_98_code, 3, some (.int), 12), 8107),
  ((⟨"DoorBenchModel", "row", "(III)I"⟩, prog_14_method_99_code, 5, some (.int), 12), 8111),
  ((⟨"DoorBenchModel", "put", "(IIJ)I"⟩, prog_14_method_102_code, 6, some (.int), 12), 8115),
  ((⟨"DoorBenchModel", "refusal", "(II)I"⟩, prog_14_method_100_code, 3, some (.int), 12), 8119),
  ((⟨"DoorBenchModel", "asSort", "(IJ)J"⟩, prog_14_method_101_code, 3, some (.long), 12), 8122),
  ((⟨"DoorBenchModel", "element", "(II)J"⟩, prog_14_method_103_code, 3, some (.long), 12), 8126),
  ((⟨"DoorBenchModel", "shift", "(IIIII)I"⟩, prog_14_method_104_code, 7, some (.int), 12), 8131),
  ((⟨"DoorBenchModel", "taken", "(II)I"⟩, prog_14_method_105_code, 4, some (.int), 12), 8135),
  ((⟨"DoorBenchModel", "count", "(I)I"⟩, prog_14_method_106_code, 4, some (.int), 12), 8139)]
def z_mq : List ((MethodName × ByteArray × Nat × Option FieldType × Nat) × Nat) := z_mq0 ++ (z_mq1 ++ (z_mq2 ++ (z_mq3 ++ (z_mq4 ++ (z_mq5 ++ (z_mq6 ++ (z_mq7)))))))
abbrev z_nm : Nat := 293
def z_m (j : Nat) : MethodName × ByteArray × Nat × Option FieldType × Nat := match j with
  | 0 => (x, code, 4, (some .boolean : Option FieldType), 13)
  | k + 1 => ((z_mq[k]?).map (·.1)).getD (x, code, 4, (some .boolean : Option FieldType), 13)
def z_look (p : Nat) : Option Jvm.Cond := (z_tk[p / 1000]?).bind fun l => l[p % 1000]?
def z_cw (q : (MethodName × ByteArray × Nat × Option FieldType × Nat) × Nat) : Prop := z_look q.2 = some (.code q.1.1 q.1.2.1 q.1.2.2.1 q.1.2.2.2.1)
theorem z_cw0 : ∀ q ∈ z_mq0, z_cw q := List.forall_mem_cons.mpr ⟨rfl, List.forall_mem_cons.mpr ⟨rfl, List.forall_mem_cons.mpr ⟨rfl, List.forall_mem_cons.mpr ⟨rfl, List.forall_mem_cons.mpr ⟨rfl, List.forall_mem_cons.mpr ⟨rfl, List.forall_mem_cons.mpr ⟨rfl, List.forall_mem_cons.mpr ⟨rfl, List.forall_mem_cons.mpr ⟨rfl, List.forall_mem_cons.mpr ⟨rfl, List.forall_mem_cons.mpr ⟨rfl, List.forall_mem_cons.mpr ⟨rfl, List.forall_mem_cons.mpr ⟨rfl, List.forall_mem_cons.mpr ⟨rfl, List.forall_mem_cons.mpr ⟨rfl, List.forall_mem_cons.mpr ⟨rfl, List.forall_mem_cons.mpr ⟨rfl, List.forall_mem_cons.mpr ⟨rfl, List.forall_mem_cons.mpr ⟨rfl, List.forall_mem_cons.mpr ⟨rfl, List.forall_mem_cons.mpr ⟨rfl, List.forall_mem_cons.mpr ⟨rfl, List.forall_mem_cons.mpr ⟨rfl, List.forall_mem_cons.mpr ⟨rfl, List.forall_mem_cons.mpr ⟨rfl, List.forall_mem_cons.mpr ⟨rfl, List.forall_mem_cons.mpr ⟨rfl, List.forall_mem_cons.mpr ⟨rfl, List.forall_mem_cons.mpr ⟨rfl, List.forall_mem_cons.mpr ⟨rfl, List.forall_mem_cons.mpr ⟨rfl, List.forall_mem_cons.mpr ⟨rfl, List.forall_mem_cons.mpr ⟨rfl, List.forall_mem_cons.mpr ⟨rfl, List.forall_mem_cons.mpr ⟨rfl, List.forall_mem_cons.mpr ⟨rfl, List.forall_mem_cons.mpr ⟨rfl, List.forall_mem_cons.mpr ⟨rfl, List.forall_mem_cons.mpr ⟨rfl, List.forall_mem_cons.mpr ⟨rfl, fun _ h => absurd h List.not_mem_nil⟩⟩⟩⟩⟩⟩⟩⟩⟩⟩⟩⟩⟩⟩⟩⟩⟩⟩⟩⟩⟩⟩⟩⟩⟩⟩⟩⟩⟩⟩⟩⟩⟩⟩⟩⟩⟩⟩⟩⟩
theorem z_cw1 : ∀ q ∈ z_mq1, z_cw q := List.forall_mem_cons.mpr ⟨rfl, List.forall_mem_cons.mpr ⟨rfl, List.forall_mem_cons.mpr ⟨rfl, List.forall_mem_cons.mpr ⟨rfl, List.forall_mem_cons.mpr ⟨rfl, List.forall_mem_cons.mpr ⟨rfl, List.forall_mem_cons.mpr ⟨rfl, List.forall_mem_cons.mpr ⟨rfl, List.forall_mem_cons.mpr ⟨rfl, List.forall_mem_cons.mpr ⟨rfl, List.forall_mem_cons.mpr ⟨rfl, List.forall_mem_cons.mpr ⟨rfl, List.forall_mem_cons.mpr ⟨rfl, List.forall_mem_cons.mpr ⟨rfl, List.forall_mem_cons.mpr ⟨rfl, List.forall_mem_cons.mpr ⟨rfl, List.forall_mem_cons.mpr ⟨rfl, List.forall_mem_cons.mpr ⟨rfl, List.forall_mem_cons.mpr ⟨rfl, List.forall_mem_cons.mpr ⟨rfl, List.forall_mem_cons.mpr ⟨rfl, List.forall_mem_cons.mpr ⟨rfl, List.forall_mem_cons.mpr ⟨rfl, List.forall_mem_cons.mpr ⟨rfl, List.forall_mem_cons.mpr ⟨rfl, List.forall_mem_cons.mpr ⟨rfl, List.forall_mem_cons.mpr ⟨rfl, List.forall_mem_cons.mpr ⟨rfl, List.forall_mem_cons.mpr ⟨rfl, List.forall_mem_cons.mpr ⟨rfl, List.forall_mem_cons.mpr ⟨rfl, List.forall_mem_cons.mpr ⟨rfl, List.forall_mem_cons.mpr ⟨rfl, List.forall_mem_cons.mpr ⟨rfl, List.forall_mem_cons.mpr ⟨rfl, List.forall_mem_cons.mpr ⟨rfl, List.forall_mem_cons.mpr ⟨rfl, List.forall_mem_cons.mpr ⟨rfl, List.forall_mem_cons.mpr ⟨rfl, List.forall_mem_cons.mpr ⟨rfl, fun _ h => absurd h List.not_mem_nil⟩⟩⟩⟩⟩⟩⟩⟩⟩⟩⟩⟩⟩⟩⟩⟩⟩⟩⟩⟩⟩⟩⟩⟩⟩⟩⟩⟩⟩⟩⟩⟩⟩⟩⟩⟩⟩⟩⟩⟩
theorem z_cw2 : ∀ q ∈ z_mq2, z_cw q := List.forall_mem_cons.mpr ⟨rfl, List.forall_mem_cons.mpr ⟨rfl, List.forall_mem_cons.mpr ⟨rfl, List.forall_mem_cons.mpr ⟨rfl, List.forall_mem_cons.mpr ⟨rfl, List.forall_mem_cons.mpr ⟨rfl, List.forall_mem_cons.mpr ⟨rfl, List.forall_mem_cons.mpr ⟨rfl, List.forall_mem_cons.mpr ⟨rfl, List.forall_mem_cons.mpr ⟨rfl, List.forall_mem_cons.mpr ⟨rfl, List.forall_mem_cons.mpr ⟨rfl, List.forall_mem_cons.mpr ⟨rfl, List.forall_mem_cons.mpr ⟨rfl, List.forall_mem_cons.mpr ⟨rfl, List.forall_mem_cons.mpr ⟨rfl, List.forall_mem_cons.mpr ⟨rfl, List.forall_mem_cons.mpr ⟨rfl, List.forall_mem_cons.mpr ⟨rfl, List.forall_mem_cons.mpr ⟨rfl, List.forall_mem_cons.mpr ⟨rfl, List.forall_mem_cons.mpr ⟨rfl, List.forall_mem_cons.mpr ⟨rfl, List.forall_mem_cons.mpr ⟨rfl, List.forall_mem_cons.mpr ⟨rfl, List.forall_mem_cons.mpr ⟨rfl, List.forall_mem_cons.mpr ⟨rfl, List.forall_mem_cons.mpr ⟨rfl, List.forall_mem_cons.mpr ⟨rfl, List.forall_mem_cons.mpr ⟨rfl, List.forall_mem_cons.mpr ⟨rfl, List.forall_mem_cons.mpr ⟨rfl, List.forall_mem_cons.mpr ⟨rfl, List.forall_mem_cons.mpr ⟨rfl, List.forall_mem_cons.mpr ⟨rfl, List.forall_mem_cons.mpr ⟨rfl, List.forall_mem_cons.mpr ⟨rfl, List.forall_mem_cons.mpr ⟨rfl, List.forall_mem_cons.mpr ⟨rfl, List.forall_mem_cons.mpr ⟨rfl, fun _ h => absurd h List.not_mem_nil⟩⟩⟩⟩⟩⟩⟩⟩⟩⟩⟩⟩⟩⟩⟩⟩⟩⟩⟩⟩⟩⟩⟩⟩⟩⟩⟩⟩⟩⟩⟩⟩⟩⟩⟩⟩⟩⟩⟩⟩
theorem z_cw3 : ∀ q ∈ z_mq3, z_cw q := List.forall_mem_cons.mpr ⟨rfl, List.forall_mem_cons.mpr ⟨rfl, List.forall_mem_cons.mpr ⟨rfl, List.forall_mem_cons.mpr ⟨rfl, List.forall_mem_cons.mpr ⟨rfl, List.forall_mem_cons.mpr ⟨rfl, List.forall_mem_cons.mpr ⟨rfl, List.forall_mem_cons.mpr ⟨rfl, List.forall_mem_cons.mpr ⟨rfl, List.forall_mem_cons.mpr ⟨rfl, List.forall_mem_cons.mpr ⟨rfl, List.forall_mem_cons.mpr ⟨rfl, List.forall_mem_cons.mpr ⟨rfl, List.forall_mem_cons.mpr ⟨rfl, List.forall_mem_cons.mpr ⟨rfl, List.forall_mem_cons.mpr ⟨rfl, List.forall_mem_cons.mpr ⟨rfl, List.forall_mem_cons.mpr ⟨rfl, List.forall_mem_cons.mpr ⟨rfl, List.forall_mem_cons.mpr ⟨rfl, List.forall_mem_cons.mpr ⟨rfl, List.forall_mem_cons.mpr ⟨rfl, List.forall_mem_cons.mpr ⟨rfl, List.forall_mem_cons.mpr ⟨rfl, List.forall_mem_cons.mpr ⟨rfl, List.forall_mem_cons.mpr ⟨rfl, List.forall_mem_cons.mpr ⟨rfl, List.forall_mem_cons.mpr ⟨rfl, List.forall_mem_cons.mpr ⟨rfl, List.forall_mem_cons.mpr ⟨rfl, List.forall_mem_cons.mpr ⟨rfl, List.forall_mem_cons.mpr ⟨rfl, List.forall_mem_cons.mpr ⟨rfl, List.forall_mem_cons.mpr ⟨rfl, List.forall_mem_cons.mpr ⟨rfl, List.forall_mem_cons.mpr ⟨rfl, List.forall_mem_cons.mpr ⟨rfl, List.forall_mem_cons.mpr ⟨rfl, List.forall_mem_cons.mpr ⟨rfl, List.forall_mem_cons.mpr ⟨rfl, fun _ h => absurd h List.not_mem_nil⟩⟩⟩⟩⟩⟩⟩⟩⟩⟩⟩⟩⟩⟩⟩⟩⟩⟩⟩⟩⟩⟩⟩⟩⟩⟩⟩⟩⟩⟩⟩⟩⟩⟩⟩⟩⟩⟩⟩⟩
theorem z_cw4 : ∀ q ∈ z_mq4, z_cw q := List.forall_mem_cons.mpr ⟨rfl, List.forall_mem_cons.mpr ⟨rfl, List.forall_mem_cons.mpr ⟨rfl, List.forall_mem_cons.mpr ⟨rfl, List.forall_mem_cons.mpr ⟨rfl, List.forall_mem_cons.mpr ⟨rfl, List.forall_mem_cons.mpr ⟨rfl, List.forall_mem_cons.mpr ⟨rfl, List.forall_mem_cons.mpr ⟨rfl, List.forall_mem_cons.mpr ⟨rfl, List.forall_mem_cons.mpr ⟨rfl, List.forall_mem_cons.mpr ⟨rfl, List.forall_mem_cons.mpr ⟨rfl, List.forall_mem_cons.mpr ⟨rfl, List.forall_mem_cons.mpr ⟨rfl, List.forall_mem_cons.mpr ⟨rfl, List.forall_mem_cons.mpr ⟨rfl, List.forall_mem_cons.mpr ⟨rfl, List.forall_mem_cons.mpr ⟨rfl, List.forall_mem_cons.mpr ⟨rfl, List.forall_mem_cons.mpr ⟨rfl, List.forall_mem_cons.mpr ⟨rfl, List.forall_mem_cons.mpr ⟨rfl, List.forall_mem_cons.mpr ⟨rfl, List.forall_mem_cons.mpr ⟨rfl, List.forall_mem_cons.mpr ⟨rfl, List.forall_mem_cons.mpr ⟨rfl, List.forall_mem_cons.mpr ⟨rfl, List.forall_mem_cons.mpr ⟨rfl, List.forall_mem_cons.mpr ⟨rfl, List.forall_mem_cons.mpr ⟨rfl, List.forall_mem_cons.mpr ⟨rfl, List.forall_mem_cons.mpr ⟨rfl, List.forall_mem_cons.mpr ⟨rfl, List.forall_mem_cons.mpr ⟨rfl, List.forall_mem_cons.mpr ⟨rfl, List.forall_mem_cons.mpr ⟨rfl, List.forall_mem_cons.mpr ⟨rfl, List.forall_mem_cons.mpr ⟨rfl, List.forall_mem_cons.mpr ⟨rfl, fun _ h => absurd h List.not_mem_nil⟩⟩⟩⟩⟩⟩⟩⟩⟩⟩⟩⟩⟩⟩⟩⟩⟩⟩⟩⟩⟩⟩⟩⟩⟩⟩⟩⟩⟩⟩⟩⟩⟩⟩⟩⟩⟩⟩⟩⟩
theorem z_cw5 : ∀ q ∈ z_mq5, z_cw q := List.forall_mem_cons.mpr ⟨rfl, List.forall_mem_cons.mpr ⟨rfl, List.forall_mem_cons.mpr ⟨rfl, List.forall_mem_cons.mpr ⟨rfl, List.forall_mem_cons.mpr ⟨rfl, List.forall_mem_cons.mpr ⟨rfl, List.forall_mem_cons.mpr ⟨rfl, List.forall_mem_cons.mpr ⟨rfl, List.forall_mem_cons.mpr ⟨rfl, List.forall_mem_cons.mpr ⟨rfl, List.forall_mem_cons.mpr ⟨rfl, List.forall_mem_cons.mpr ⟨rfl, List.forall_mem_cons.mpr ⟨rfl, List.forall_mem_cons.mpr ⟨rfl, List.forall_mem_cons.mpr ⟨rfl, List.forall_mem_cons.mpr ⟨rfl, List.forall_mem_cons.mpr ⟨rfl, List.forall_mem_cons.mpr ⟨rfl, List.forall_mem_cons.mpr ⟨rfl, List.forall_mem_cons.mpr ⟨rfl, List.forall_mem_cons.mpr ⟨rfl, List.forall_mem_cons.mpr ⟨rfl, List.forall_mem_cons.mpr ⟨rfl, List.forall_mem_cons.mpr ⟨rfl, List.forall_mem_cons.mpr ⟨rfl, List.forall_mem_cons.mpr ⟨rfl, List.forall_mem_cons.mpr ⟨rfl, List.forall_mem_cons.mpr ⟨rfl, List.forall_mem_cons.mpr ⟨rfl, List.forall_mem_cons.mpr ⟨rfl, List.forall_mem_cons.mpr ⟨rfl, List.forall_mem_cons.mpr ⟨rfl, List.forall_mem_cons.mpr ⟨rfl, List.forall_mem_cons.mpr ⟨rfl, List.forall_mem_cons.mpr ⟨rfl, List.forall_mem_cons.mpr ⟨rfl, List.forall_mem_cons.mpr ⟨rfl, List.forall_mem_cons.mpr ⟨rfl, List.forall_mem_cons.mpr ⟨rfl, List.forall_mem_cons.mpr ⟨rfl, fun _ h => absurd h List.not_mem_nil⟩⟩⟩⟩⟩⟩⟩⟩⟩⟩⟩⟩⟩⟩⟩⟩⟩⟩⟩⟩⟩⟩⟩⟩⟩⟩⟩⟩⟩⟩⟩⟩⟩⟩⟩⟩⟩⟩⟩⟩
theorem z_cw6 : ∀ q ∈ z_mq6, z_cw q := List.forall_mem_cons.mpr ⟨rfl, List.forall_mem_cons.mpr ⟨rfl, List.forall_mem_cons.mpr ⟨rfl, List.forall_mem_cons.mpr ⟨rfl, List.forall_mem_cons.mpr ⟨rfl, List.forall_mem_cons.mpr ⟨rfl, List.forall_mem_cons.mpr ⟨rfl, List.forall_mem_cons.mpr ⟨rfl, List.forall_mem_cons.mpr ⟨rfl, List.forall_mem_cons.mpr ⟨rfl, List.forall_mem_cons.mpr ⟨rfl, List.forall_mem_cons.mpr ⟨rfl, List.forall_mem_cons.mpr ⟨rfl, List.forall_mem_cons.mpr ⟨rfl, List.forall_mem_cons.mpr ⟨rfl, List.forall_mem_cons.mpr ⟨rfl, List.forall_mem_cons.mpr ⟨rfl, List.forall_mem_cons.mpr ⟨rfl, List.forall_mem_cons.mpr ⟨rfl, List.forall_mem_cons.mpr ⟨rfl, List.forall_mem_cons.mpr ⟨rfl, List.forall_mem_cons.mpr ⟨rfl, List.forall_mem_cons.mpr ⟨rfl, List.forall_mem_cons.mpr ⟨rfl, List.forall_mem_cons.mpr ⟨rfl, List.forall_mem_cons.mpr ⟨rfl, List.forall_mem_cons.mpr ⟨rfl, List.forall_mem_cons.mpr ⟨rfl, List.forall_mem_cons.mpr ⟨rfl, List.forall_mem_cons.mpr ⟨rfl, List.forall_mem_cons.mpr ⟨rfl, List.forall_mem_cons.mpr ⟨rfl, List.forall_mem_cons.mpr ⟨rfl, List.forall_mem_cons.mpr ⟨rfl, List.forall_mem_cons.mpr ⟨rfl, List.forall_mem_cons.mpr ⟨rfl, List.forall_mem_cons.mpr ⟨rfl, List.forall_mem_cons.mpr ⟨rfl, List.forall_mem_cons.mpr ⟨rfl, List.forall_mem_cons.mpr ⟨rfl, fun _ h => absurd h List.not_mem_nil⟩⟩⟩⟩⟩⟩⟩⟩⟩⟩⟩⟩⟩⟩⟩⟩⟩⟩⟩⟩⟩⟩⟩⟩⟩⟩⟩⟩⟩⟩⟩⟩⟩⟩⟩⟩⟩⟩⟩⟩
theorem z_cw7 : ∀ q ∈ z_mq7, z_cw q := List.forall_mem_cons.mpr ⟨rfl, List.forall_mem_cons.mpr ⟨rfl, List.forall_mem_cons.mpr ⟨rfl, List.forall_mem_cons.mpr ⟨rfl, List.forall_mem_cons.mpr ⟨rfl, List.forall_mem_cons.mpr ⟨rfl, List.forall_mem_cons.mpr ⟨rfl, List.forall_mem_cons.mpr ⟨rfl, List.forall_mem_cons.mpr ⟨rfl, List.forall_mem_cons.mpr ⟨rfl, List.forall_mem_cons.mpr ⟨rfl, List.forall_mem_cons.mpr ⟨rfl, fun _ h => absurd h List.not_mem_nil⟩⟩⟩⟩⟩⟩⟩⟩⟩⟩⟩⟩
/-- fields in the pools: own class, index; the field's number, the classes that have it; reference, declarer, name, descriptor; where its words stand -/
def z_fl0 : List ((Nat × Nat) × (Nat × List Nat) × (String × String × String × String) × (Nat × Nat)) := [((1, 9), (0, [1]), ("DoorBench$Tape", "DoorBench$Tape", "bytes", "[I"), (1034, 0)),
  ((1, 25), (1, [1]), ("DoorBench$Tape", "DoorBench$Tape", "length", "I"), (1035, 0)),
  ((0, 55), (1, [1]), ("DoorBench$Tape", "DoorBench$Tape", "length", "I"), (1036, 0)),
  ((1, 29), (2, [1]), ("DoorBench$Tape", "DoorBench$Tape", "at", "I"), (1037, 0)),
  ((1, 32), (3, [1]), ("DoorBench$Tape", "DoorBench$Tape", "fault", "I"), (1038, 0)),
  ((1, 47), (4, [1]), ("DoorBench$Tape", "DoorBench$Tape", "questions", "I"), (1039, 0)),
  ((1, 44), (5, [1]), ("DoorBench$Tape", "DoorBench$Tape", "premises", "I"), (1040, 0)),
  ((1, 41), (6, [1]), ("DoorBench$Tape", "DoorBench$Tape", "ends", "I"), (1041, 0)),
  ((1, 38), (7, [1]), ("DoorBench$Tape", "DoorBench$Tape", "ties", "I"), (1042, 0)),
  ((1, 15), (8, [1]), ("DoorBench$Tape", "DoorBench$Tape", "numbers", "[I"), (1043, 0)),
  ((1, 18), (9, [1]), ("DoorBench$Tape", "DoorBench$Tape", "tieStarts", "[I"), (1044, 0)),
  ((1, 35), (10, [1]), ("DoorBench$Tape", "DoorBench$Tape", "block", "I"), (1045, 0)),
  ((1, 21), (11, [1]), ("DoorBench$Tape", "DoorBench$Tape", "reached", "[J"), (1046, 0)),
  ((0, 10), (0, [0]), ("DoorBench", "DoorBench", "tape", "LDoorBench$Tape;"), (1078, 0)),
  ((0, 18), (1, [0]), ("DoorBench", "DoorBench", "seated", "[LDoorBench$Bench;"), (1079, 0)),
  ((0, 22), (2, [0]), ("DoorBench", "DoorBench", "trials", "[LDoorBench$Bench;"), (1080, 0)),
  ((0, 59), (3, [0]), ("DoorBench", "DoorBench", "agendas", "I"), (1081, 0)),
  ((0, 27), (4, [0]), ("DoorBench", "DoorBench", "bodies", "[LDoorBench$Way;"), (1082, 0)),
  ((0, 188), (5, [0]), ("DoorBench", "DoorBench", "ways", "I"), (1083, 0)),
  ((0, 31), (6, [0]), ("DoorBench", "DoorBench", "ran", "[I"), (1084, 0)),
  ((0, 35), (7, [0]), ("DoorBench", "DoorBench", "sorts", "[I"), (1085, 0)),
  ((0, 38), (8, [0]), ("DoorBench", "DoorBench", "sizes", "[I"), (1086, 0)),
  ((0, 41), (9, [0]), ("DoorBench", "DoorBench", "elements", "[J"), (1087, 0)),
  ((0, 45), (10, [0]), ("DoorBench", "DoorBench", "kept", "[LDoorBench$Way;"), (1088, 0)),
  ((0, 48), (11, [0]), ("DoorBench", "DoorBench", "outcomes", "[I"), (1089, 0)),
  ((0, 267), (12, [0]), ("DoorBench", "DoorBench", "remembered", "[I"), (1090, 0)),
  ((2, 15), (0, [2]), ("DoorBench$Agenda", "DoorBench$Agenda", "questions", "I"), (1227, 0)),
  ((3, 63), (0, [2]), ("DoorBench$Agenda", "DoorBench$Agenda", "questions", "I"), (1228, 0)),
  ((0, 93), (0, [2]), ("DoorBench$Agenda", "DoorBench$Agenda", "questions", "I"), (1229, 0)),
  ((4, 85), (0, [2]), ("DoorBench$Agenda", "DoorBench$Agenda", "questions", "I"), (1230, 0)),
  ((2, 32), (1, [2]), ("DoorBench$Agenda", "DoorBench$Agenda", "all", "I"), (1231, 0)),
  ((3, 56), (1, [2]), ("DoorBench$Agenda", "DoorBench$Agenda", "all", "I"), (1232, 0)),
  ((4, 88), (1, [2]), ("DoorBench$Agenda", "DoorBench$Agenda", "all", "I"), (1233, 0)),
  ((0, 238), (1, [2]), ("DoorBench$Agenda", "DoorBench$Agenda", "all", "I"), (1234, 0)),
  ((2, 19), (2, [2]), ("DoorBench$Agenda", "DoorBench$Agenda", "premises", "I"), (1235, 0)),
  ((6, 13), (2, [2]), ("DoorBench$Agenda", "DoorBench$Agenda", "premises", "I"), (1236, 0)),
  ((0, 99), (2, [2]), ("DoorBench$Agenda", "DoorBench$Agenda", "premises", "I"), (1237, 0)),
  ((2, 22), (3, [2]), ("DoorBench$Agenda", "DoorBench$Agenda", "ends", "I"), (1238, 0)),
  ((7, 13), (3, [2]), ("DoorBench$Agenda", "DoorBench$Agenda", "ends", "I"), (1239, 0)),
  ((0, 102), (3, [2]), ("DoorBench$Agenda", "DoorBench$Agenda", "ends", "I"), (2000, 0)),
  ((2, 25), (4, [2]), ("DoorBench$Agenda", "DoorBench$Agenda", "ties", "I"), (2001, 0)),
  ((0, 96), (4, [2]), ("DoorBench$Agenda", "DoorBench$Agenda", "ties", "I"), (2002, 0)),
  ((2, 60), (5, [2]), ("DoorBench$Agenda", "DoorBench$Agenda", "sets", "[I"), (2003, 0)),
  ((10, 33), (5, [2]), ("DoorBench$Agenda", "DoorBench$Agenda", "sets", "[I"), (2004, 0)),
  ((0, 74), (5, [2]), ("DoorBench$Agenda", "DoorBench$Agenda", "sets", "[I"), (2005, 0)),
  ((4, 82), (5, [2]), ("DoorBench$Agenda", "DoorBench$Agenda", "sets", "[I"), (2006, 0)),
  ((3, 101), (5, [2]), ("DoorBench$Agenda", "DoorBench$Agenda", "sets", "[I"), (2007, 0)),
  ((2, 35), (6, [2]), ("DoorBench$Agenda", "DoorBench$Agenda", "blocks", "I"), (2008, 0)),
  ((2, 40), (7, [2]), ("DoorBench$Agenda", "DoorBench$Agenda", "whole", "J"), (2009, 0)),
  ((2, 28), (8, [2]), ("DoorBench$Agenda", "DoorBench$Agenda", "keeping", "[J"), (2010, 0)),
  ((2, 44), (9, [2]), ("DoorBench$Agenda", "DoorBench$Agenda", "lawfulBits", "[J"), (2011, 0)),
  ((3, 43), (10, [2]), ("DoorBench$Agenda", "DoorBench$Agenda", "spans", "I"), (2012, 0)),
  ((2, 63), (10, [2]), ("DoorBench$Agenda", "DoorBench$Agenda", "spans", "I"), (2013, 0)),
  ((2, 66), (11, [2]), ("DoorBench$Agenda", "DoorBench$Agenda", "yesOnes", "[J"), (2014, 0)),
  ((2, 47), (12, [2]), ("DoorBench$Agenda", "DoorBench$Agenda", "fewBits", "[J"), (2015, 0)),
  ((2, 9), (13, [2]), ("DoorBench$Agenda", "DoorBench$Agenda", "few", "[I"), (2016, 0)),
  ((3, 39), (0, [3]), ("DoorBench$Bench", "DoorBench$Bench", "agenda", "LDoorBench$Agenda;"), (2069, 0)),
  ((7, 7), (0, [3]), ("DoorBench$Bench", "DoorBench$Bench", "agenda", "LDoorBench$Agenda;"), (2070, 0)),
  ((8, 7), (0, [3]), ("DoorBench$Bench", "DoorBench$Bench", "agenda", "LDoorBench$Agenda;"), (2071, 0)),
  ((6, 7), (0, [3]), ("DoorBench$Bench", "DoorBench$Bench", "agenda", "LDoorBench$Agenda;"), (2072, 0))]
def z_fl1 : List ((Nat × Nat) × (Nat × List Nat) × (String × String × String × String) × (Nat × Nat)) := [((11, 28), (0, [3]), ("DoorBench$Bench", "DoorBench$Bench", "agenda", "LDoorBench$Agenda;"), (2073, 0)),
  ((10, 29), (0, [3]), ("DoorBench$Bench", "DoorBench$Bench", "agenda", "LDoorBench$Agenda;"), (2074, 0)),
  ((0, 89), (0, [3]), ("DoorBench$Bench", "DoorBench$Bench", "agenda", "LDoorBench$Agenda;"), (2075, 0)),
  ((4, 50), (0, [3]), ("DoorBench$Bench", "DoorBench$Bench", "agenda", "LDoorBench$Agenda;"), (2076, 0)),
  ((3, 9), (1, [3]), ("DoorBench$Bench", "DoorBench$Bench", "weights", "[I"), (2077, 0)),
  ((0, 163), (1, [3]), ("DoorBench$Bench", "DoorBench$Bench", "weights", "[I"), (2078, 0)),
  ((3, 15), (2, [3]), ("DoorBench$Bench", "DoorBench$Bench", "yes", "[I"), (2079, 0)),
  ((10, 19), (2, [3]), ("DoorBench$Bench", "DoorBench$Bench", "yes", "[I"), (2080, 0)),
  ((11, 21), (2, [3]), ("DoorBench$Bench", "DoorBench$Bench", "yes", "[I"), (2081, 0)),
  ((4, 71), (2, [3]), ("DoorBench$Bench", "DoorBench$Bench", "yes", "[I"), (2082, 0)),
  ((0, 166), (2, [3]), ("DoorBench$Bench", "DoorBench$Bench", "yes", "[I"), (2083, 0)),
  ((3, 18), (3, [3]), ("DoorBench$Bench", "DoorBench$Bench", "no", "[I"), (2084, 0)),
  ((11, 25), (3, [3]), ("DoorBench$Bench", "DoorBench$Bench", "no", "[I"), (2085, 0)),
  ((0, 169), (3, [3]), ("DoorBench$Bench", "DoorBench$Bench", "no", "[I"), (2086, 0)),
  ((3, 53), (4, [3]), ("DoorBench$Bench", "DoorBench$Bench", "judges", "I"), (2087, 0)),
  ((10, 23), (4, [3]), ("DoorBench$Bench", "DoorBench$Bench", "judges", "I"), (2088, 0)),
  ((11, 38), (4, [3]), ("DoorBench$Bench", "DoorBench$Bench", "judges", "I"), (2089, 0)),
  ((0, 105), (4, [3]), ("DoorBench$Bench", "DoorBench$Bench", "judges", "I"), (2090, 0)),
  ((4, 108), (4, [3]), ("DoorBench$Bench", "DoorBench$Bench", "judges", "I"), (2091, 0)),
  ((3, 21), (5, [3]), ("DoorBench$Bench", "DoorBench$Bench", "lean", "[I"), (2092, 0)),
  ((3, 24), (6, [3]), ("DoorBench$Bench", "DoorBench$Bench", "lowLean", "[I"), (2093, 0)),
  ((3, 27), (7, [3]), ("DoorBench$Bench", "DoorBench$Bench", "highLean", "[I"), (2094, 0)),
  ((3, 30), (8, [3]), ("DoorBench$Bench", "DoorBench$Bench", "order", "[I"), (2095, 0)),
  ((3, 49), (9, [3]), ("DoorBench$Bench", "DoorBench$Bench", "left", "[J"), (2096, 0)),
  ((3, 33), (10, [3]), ("DoorBench$Bench", "DoorBench$Bench", "numbers", "[I"), (2097, 0)),
  ((10, 26), (10, [3]), ("DoorBench$Bench", "DoorBench$Bench", "numbers", "[I"), (2098, 0)),
  ((11, 41), (10, [3]), ("DoorBench$Bench", "DoorBench$Bench", "numbers", "[I"), (2099, 0)),
  ((4, 115), (10, [3]), ("DoorBench$Bench", "DoorBench$Bench", "numbers", "[I"), (2100, 0)),
  ((3, 36), (11, [3]), ("DoorBench$Bench", "DoorBench$Bench", "before", "[I"), (2101, 0)),
  ((4, 9), (0, [4, 5, 6, 7, 8, 9, 10, 11]), ("DoorBench$Way", "DoorBench$Way", "kind", "I"), (3073, 0)),
  ((0, 225), (0, [4, 5, 6, 7, 8, 9, 10, 11]), ("DoorBench$Way", "DoorBench$Way", "kind", "I"), (3074, 0)),
  ((4, 22), (1, [4, 5, 6, 7, 8, 9, 10, 11]), ("DoorBench$Way", "DoorBench$Way", "shift", "I"), (3075, 0)),
  ((9, 7), (1, [4, 5, 6, 7, 8, 9, 10, 11]), ("DoorBench$Turns", "DoorBench$Way", "shift", "I"), (3076, 3077)),
  ((0, 228), (1, [4, 5, 6, 7, 8, 9, 10, 11]), ("DoorBench$Way", "DoorBench$Way", "shift", "I"), (3078, 0)),
  ((4, 25), (2, [4, 5, 6, 7, 8, 9, 10, 11]), ("DoorBench$Way", "DoorBench$Way", "judge", "I"), (3079, 0)),
  ((10, 7), (2, [4, 5, 6, 7, 8, 9, 10, 11]), ("DoorBench$Chair", "DoorBench$Way", "judge", "I"), (3080, 3081)),
  ((11, 9), (2, [4, 5, 6, 7, 8, 9, 10, 11]), ("DoorBench$Leader", "DoorBench$Way", "judge", "I"), (3082, 3083)),
  ((0, 231), (2, [4, 5, 6, 7, 8, 9, 10, 11]), ("DoorBench$Way", "DoorBench$Way", "judge", "I"), (3084, 0)),
  ((4, 15), (3, [4, 5, 6, 7, 8, 9, 10, 11]), ("DoorBench$Way", "DoorBench$Way", "number", "I"), (3085, 0)),
  ((4, 18), (4, [4, 5, 6, 7, 8, 9, 10, 11]), ("DoorBench$Way", "DoorBench$Way", "ran", "[I"), (3086, 0)),
  ((12, 9), (0, [12]), ("DoorBenchModel", "DoorBenchModel", "tape", "[I"), (6033, 0)),
  ((12, 120), (1, [12]), ("DoorBenchModel", "DoorBenchModel", "tapeMany", "I"), (6034, 0)),
  ((12, 13), (2, [12]), ("DoorBenchModel", "DoorBenchModel", "text", "[I"), (6035, 0)),
  ((12, 16), (3, [12]), ("DoorBenchModel", "DoorBenchModel", "textMany", "[I"), (6036, 0)),
  ((12, 19), (4, [12]), ("DoorBenchModel", "DoorBenchModel", "letter", "[I"), (6037, 0)),
  ((12, 22), (5, [12]), ("DoorBenchModel", "DoorBenchModel", "questions", "[I"), (6038, 0)),
  ((12, 25), (6, [12]), ("DoorBenchModel", "DoorBenchModel", "ties", "[I"), (6039, 0)),
  ((12, 28), (7, [12]), ("DoorBenchModel", "DoorBenchModel", "tieAt", "[I"), (6040, 0)),
  ((12, 31), (8, [12]), ("DoorBenchModel", "DoorBenchModel", "premises", "[I"), (6041, 0)),
  ((12, 34), (9, [12]), ("DoorBenchModel", "DoorBenchModel", "endsOf", "[I"), (6042, 0)),
  ((12, 37), (10, [12]), ("DoorBenchModel", "DoorBenchModel", "breaks", "[I"), (6043, 0)),
  ((12, 40), (11, [12]), ("DoorBenchModel", "DoorBenchModel", "lawfulSets", "[I"), (6044, 0)),
  ((12, 43), (12, [12]), ("DoorBenchModel", "DoorBenchModel", "lawfulMany", "[I"), (6045, 0)),
  ((12, 110), (13, [12]), ("DoorBenchModel", "DoorBenchModel", "agendas", "I"), (6046, 0)),
  ((12, 46), (14, [12]), ("DoorBenchModel", "DoorBenchModel", "weight", "[I"), (6047, 0)),
  ((12, 49), (15, [12]), ("DoorBenchModel", "DoorBenchModel", "yesOf", "[I"), (6048, 0)),
  ((12, 52), (16, [12]), ("DoorBenchModel", "DoorBenchModel", "noOf", "[I"), (6049, 0)),
  ((12, 55), (17, [12]), ("DoorBenchModel", "DoorBenchModel", "judges", "[I"), (6050, 0)),
  ((12, 58), (18, [12]), ("DoorBenchModel", "DoorBenchModel", "kind", "[I"), (6051, 0)),
  ((12, 61), (19, [12]), ("DoorBenchModel", "DoorBenchModel", "shift", "[I"), (6052, 0))]
def z_fl2 : List ((Nat × Nat) × (Nat × List Nat) × (String × String × String × String) × (Nat × Nat)) := [((12, 64), (20, [12]), ("DoorBenchModel", "DoorBenchModel", "chair", "[I"), (6053, 0)),
  ((12, 269), (21, [12]), ("DoorBenchModel", "DoorBenchModel", "ways", "I"), (6054, 0)),
  ((12, 133), (22, [12]), ("DoorBenchModel", "DoorBenchModel", "reads", "I"), (6055, 0)),
  ((12, 129), (23, [12]), ("DoorBenchModel", "DoorBenchModel", "isTape", "Z"), (6056, 0)),
  ((12, 123), (24, [12]), ("DoorBenchModel", "DoorBenchModel", "at", "I"), (6057, 0)),
  ((12, 126), (25, [12]), ("DoorBenchModel", "DoorBenchModel", "ends", "I"), (6058, 0)),
  ((12, 136), (26, [12]), ("DoorBenchModel", "DoorBenchModel", "fault", "I"), (6059, 0)),
  ((12, 160), (27, [12]), ("DoorBenchModel", "DoorBenchModel", "opened", "I"), (6060, 0)),
  ((12, 183), (28, [12]), ("DoorBenchModel", "DoorBenchModel", "set", "I"), (6061, 0)),
  ((12, 242), (29, [12]), ("DoorBenchModel", "DoorBenchModel", "bench", "I"), (6062, 0)),
  ((12, 245), (30, [12]), ("DoorBenchModel", "DoorBenchModel", "sits", "I"), (6063, 0)),
  ((12, 67), (31, [12]), ("DoorBenchModel", "DoorBenchModel", "sitsWeight", "[I"), (6064, 0)),
  ((12, 70), (32, [12]), ("DoorBenchModel", "DoorBenchModel", "sitsYes", "[I"), (6065, 0)),
  ((12, 73), (33, [12]), ("DoorBenchModel", "DoorBenchModel", "sitsNo", "[I"), (6066, 0)),
  ((12, 275), (34, [12]), ("DoorBenchModel", "DoorBenchModel", "yes", "I"), (6067, 0)),
  ((12, 278), (35, [12]), ("DoorBenchModel", "DoorBenchModel", "no", "I"), (6068, 0)),
  ((12, 76), (36, [12]), ("DoorBenchModel", "DoorBenchModel", "order", "[I"), (6069, 0)),
  ((12, 79), (37, [12]), ("DoorBenchModel", "DoorBenchModel", "numbers", "[I"), (6070, 0)),
  ((12, 82), (38, [12]), ("DoorBenchModel", "DoorBenchModel", "rowYes", "[I"), (6071, 0)),
  ((12, 85), (39, [12]), ("DoorBenchModel", "DoorBenchModel", "rowNo", "[I"), (6072, 0)),
  ((12, 88), (40, [12]), ("DoorBenchModel", "DoorBenchModel", "rowNumbers", "[I"), (6073, 0)),
  ((12, 339), (41, [12]), ("DoorBenchModel", "DoorBenchModel", "rowMany", "I"), (6074, 0)),
  ((12, 91), (42, [12]), ("DoorBenchModel", "DoorBenchModel", "mendSets", "[I"), (6075, 0)),
  ((12, 365), (43, [12]), ("DoorBenchModel", "DoorBenchModel", "mendMany", "I"), (6076, 0)),
  ((12, 371), (44, [12]), ("DoorBenchModel", "DoorBenchModel", "ordersMany", "I"), (6077, 0)),
  ((12, 374), (45, [12]), ("DoorBenchModel", "DoorBenchModel", "firstOrder", "I"), (6078, 0)),
  ((12, 94), (46, [12]), ("DoorBenchModel", "DoorBenchModel", "trace", "[I"), (6079, 0)),
  ((12, 381), (47, [12]), ("DoorBenchModel", "DoorBenchModel", "ran", "I"), (6080, 0)),
  ((12, 387), (48, [12]), ("DoorBenchModel", "DoorBenchModel", "acting", "I"), (6081, 0)),
  ((12, 97), (49, [12]), ("DoorBenchModel", "DoorBenchModel", "shelf", "[I"), (6082, 0)),
  ((12, 100), (50, [12]), ("DoorBenchModel", "DoorBenchModel", "many", "[I"), (6083, 0)),
  ((12, 103), (51, [12]), ("DoorBenchModel", "DoorBenchModel", "items", "[J"), (6084, 0)),
  ((12, 107), (52, [12]), ("DoorBenchModel", "DoorBenchModel", "carried", "[J"), (6085, 0))]
def z_fl : List ((Nat × Nat) × (Nat × List Nat) × (String × String × String × String) × (Nat × Nat)) := z_fl0 ++ (z_fl1 ++ (z_fl2))
/-- static fields: own class, index; the read-only cell; name, descriptor; the host of a nest mate ("": none); where its word stands -/
def z_gs : List ((Nat × Nat) × Nat × (String × String) × String × Nat) := [((1, 99), 2, ("YES_SETS", "[J"), "DoorBench", 1182), ((2, 97), 2, ("YES_SETS", "[J"), "DoorBench", 2160), ((0, 185), 3, ("KIND_ABOVE", "[I"), "", 3058), ((0, 340), 1, ("CHOOSE", "[I"), "", 4038), ((4, 28), 3, ("KIND_ABOVE", "[I"), "DoorBench", 6018)]
def z_nw : List ((Nat × Nat) × Nat × (Nat × Nat × Nat)) := [((13, 7), 0, (1020, 1021, 1001)), ((0, 7), 1, (1028, 1029, 1002)), ((0, 16), 3, (1074, 2064, 1009)), ((0, 25), 4, (1076, 3170, 1011)), ((1, 105), 2, (1198, 1199, 1005)), ((0, 195), 5, (3064, 3065, 1012)), ((0, 200), 6, (3098, 3099, 1013)), ((0, 203), 7, (3110, 3111, 1014)), ((0, 206), 8, (3122, 3123, 1015)), ((0, 209), 9, (3134, 3135, 1016)), ((0, 214), 10, (3146, 3147, 1017)), ((0, 217), 11, (3158, 3159, 1018)), ((13, 10), 12, (6027, 6028, 1003))]
def z_an : List ((Nat × Nat) × Nat × Nat) := [((0, 16), 2, 1074), ((0, 25), 3, 1076)]
def z_ld : List ((Nat × Nat) × Int32 × Nat) := [((15, 265), 1431655765, 2057), ((15, 266), 858993459, 2058), ((15, 267), 252645135, 2059), ((15, 264), 65536, 3046)]
def z_l2 : List ((Nat × Nat) × Int64 × Nat) := [((1, 84), (-1), 1169), ((2, 38), (-1), 1204), ((16, 314), 6148914691236517205, 1212), ((16, 316), 3689348814741910323, 1213), ((16, 318), 1085102592571150095, 1214), ((0, 322), (-9223372036854775808), 5230), ((12, 114), 4, 6197), ((12, 186), 97, 6221), ((12, 188), 106, 6222), ((12, 172), 49, 7019), ((12, 174), 57, 7020), ((12, 232), 9, 7091), ((12, 318), 5, 7107), ((12, 240), 2, 7116), ((12, 265), 7, 7149), ((12, 267), 8, 7150), ((12, 358), 3, 8027), ((12, 363), 31, 8056), ((12, 414), (-9223372036854775808), 8127), ((13, 151), 4294967295, 8140)]
def z_cS0 : List ((Nat × Nat) × (Nat × Nat × List (Nat × Nat)) × (MethodName × String × String) × List Nat) := [((1, 50), (0, 2, [(0, 7)]), (⟨"java/util/Arrays", "fill", "([II)V"⟩, "", ""), [1134, 1135, 1004]),
  ((1, 102), (0, 4, [(0, 20)]), (⟨"java/util/Arrays", "fill", "([JIIJ)V"⟩, "", ""), [1188, 1189, 1004]),
  ((14, 13), (0, 3, [(0, 21)]), (⟨"java/util/Arrays", "rangeCheck", "(III)V"⟩, "", ""), [1191, 1192, 1004]),
  ((2, 54), (0, 1, [(0, 25)]), (⟨"java/lang/Long", "bitCount", "(J)I"⟩, "", ""), [1209, 1210, 1007]),
  ((2, 86), (0, 1, [(0, 31)]), (⟨"java/lang/Integer", "bitCount", "(I)I"⟩, "", ""), [2054, 2055, 1008]),
  ((0, 148), (0, 1, [(0, 58)]), (⟨"DoorBench", "isShelf", "(I)Z"⟩, "", ""), [2227, 2228, 1001]),
  ((0, 155), (0, 1, [(0, 31)]), (⟨"java/lang/Integer", "bitCount", "(I)I"⟩, "", ""), [2234, 2055, 1008]),
  ((3, 66), (0, 2, [(0, 7)]), (⟨"java/util/Arrays", "fill", "([II)V"⟩, "", ""), [3003, 1135, 1004]),
  ((0, 172), (0, 1, [(0, 64)]), (⟨"DoorBench", "isEither", "(I)Z"⟩, "", ""), [3012, 3013, 1001]),
  ((3, 72), (0, 1, [(0, 31)]), (⟨"java/lang/Integer", "bitCount", "(I)I"⟩, "", ""), [3027, 2055, 1008]),
  ((3, 78), (11, 2, []), (⟨"java/lang/Math", "min", "(II)I"⟩, "", ""), [3040, 3041, 1010, 3042]),
  ((3, 84), (0, 1, [(0, 71)]), (⟨"java/lang/Integer", "numberOfTrailingZeros", "(I)I"⟩, "", ""), [3043, 3044, 1008]),
  ((3, 87), (10, 2, []), (⟨"java/lang/Math", "max", "(II)I"⟩, "", ""), [3047, 3048, 1010, 3049]),
  ((7, 19), (0, 1, [(0, 94)]), (⟨"DoorBench$Agenda", "both", "(I)I"⟩, "", ""), [3226, 3227, 1005]),
  ((8, 17), (10, 2, []), (⟨"java/lang/Math", "max", "(II)I"⟩, "", ""), [4013, 3048, 1010, 3049]),
  ((6, 19), (0, 1, [(0, 94)]), (⟨"DoorBench$Agenda", "both", "(I)I"⟩, "", ""), [4018, 3227, 1005]),
  ((3, 136), (5, 2, [(0, 105)]), (⟨"DoorBench", "choose", "(II)I"⟩, "", "DoorBench"), [4036, 1001]),
  ((4, 77), (0, 1, [(0, 31)]), (⟨"java/lang/Integer", "bitCount", "(I)I"⟩, "", ""), [4130, 2055, 1008]),
  ((4, 95), (0, 2, [(0, 7)]), (⟨"java/util/Arrays", "fill", "([II)V"⟩, "", ""), [4148, 1135, 1004]),
  ((4, 125), (5, 2, [(0, 105)]), (⟨"DoorBench", "choose", "(II)I"⟩, "", "DoorBench"), [4036, 1001]),
  ((2, 116), (0, 1, [(0, 150)]), (⟨"java/lang/Long", "numberOfTrailingZeros", "(J)I"⟩, "", ""), [5044, 5045, 1007]),
  ((16, 311), (0, 1, [(0, 71)]), (⟨"java/lang/Integer", "numberOfTrailingZeros", "(I)I"⟩, "", ""), [5047, 3044, 1008]),
  ((0, 307), (0, 4, [(0, 20)]), (⟨"java/util/Arrays", "fill", "([JIIJ)V"⟩, "", ""), [5214, 1189, 1004]),
  ((0, 316), (0, 2, [(0, 179)]), (⟨"DoorBench", "lowestBits", "(IJ)J"⟩, "", ""), [5223, 5224, 1001]),
  ((0, 328), (8, 5, []), (⟨"java/lang/System", "arraycopy", "(Ljava/lang/Object;ILjava/lang/Object;II)V"⟩, "", ""), [5239, 6001, 6000, 1019]),
  ((12, 116), (0, 3, [(0, 189)]), (⟨"DoorBenchModel", "within", "(JJJ)Z"⟩, "", ""), [6198, 6199, 1003]),
  ((12, 193), (0, 1, [(0, 207)]), (⟨"DoorBenchModel", "countOf", "(I)I"⟩, "", ""), [7033, 7034, 1003]),
  ((12, 216), (0, 3, [(0, 216)]), (⟨"DoorBenchModel", "hasThese", "(III)Z"⟩, "", ""), [7068, 7069, 1003]),
  ((12, 237), (0, 1, [(0, 225)]), (⟨"DoorBenchModel", "isShelf", "(I)Z"⟩, "", ""), [7104, 7105, 1003]),
  ((12, 390), (0, 1, [(0, 279)]), (⟨"DoorBenchModel", "above", "(I)I"⟩, "", ""), [8085, 8086, 1003]),
  ((12, 408), (0, 2, [(0, 288)]), (⟨"DoorBenchModel", "asSort", "(IJ)J"⟩, "", ""), [8120, 8121, 1003])]
def z_cS : List ((Nat × Nat) × (Nat × Nat × List (Nat × Nat)) × (MethodName × String × String) × List Nat) := z_cS0
def z_cV0 : List ((Nat × Nat) × (Nat × Nat × List (Nat × Nat)) × (MethodName × String × String) × List Nat) := [((13, 13), (1, 2, [(0, 3)]), (⟨"DoorBench", "feed", "(II)I"⟩, "", ""), [1118, 1119, 1120, 1001]),
  ((0, 51), (1, 2, [(1, 4)]), (⟨"DoorBench$Tape", "take", "(II)Z"⟩, "", ""), [1122, 1123, 1124, 1002]),
  ((13, 18), (1, 0, [(0, 5)]), (⟨"DoorBench", "agenda", "()I"⟩, "", ""), [1126, 1127, 1128, 1001]),
  ((0, 62), (1, 0, [(1, 6)]), (⟨"DoorBench$Tape", "findFault", "()I"⟩, "", ""), [1130, 1131, 1132, 1002]),
  ((1, 56), (1, 1, [(1, 8)]), (⟨"DoorBench$Tape", "expect", "(I)V"⟩, "", ""), [1137, 1139, 0, 1002]),
  ((1, 60), (1, 0, [(1, 9)]), (⟨"DoorBench$Tape", "nameQuestions", "()V"⟩, "", ""), [1141, 1143, 1, 1002]),
  ((1, 66), (1, 0, [(1, 10)]), (⟨"DoorBench$Tape", "fail", "()V"⟩, "", ""), [1145, 1147, 2, 1002]),
  ((1, 63), (1, 0, [(1, 11)]), (⟨"DoorBench$Tape", "anotherPart", "()V"⟩, "", ""), [1149, 1151, 3, 1002]),
  ((1, 69), (1, 1, [(1, 12)]), (⟨"DoorBench$Tape", "passes", "(I)Z"⟩, "", ""), [1153, 1155, 4, 1002]),
  ((1, 73), (1, 0, [(1, 13)]), (⟨"DoorBench$Tape", "someQuestions", "()I"⟩, "", ""), [1157, 1159, 5, 1002]),
  ((1, 81), (1, 0, [(1, 14)]), (⟨"DoorBench$Tape", "questionHere", "()I"⟩, "", ""), [1161, 1163, 6, 1002]),
  ((1, 77), (1, 1, [(1, 15)]), (⟨"DoorBench$Tape", "tie", "(I)J"⟩, "", ""), [1165, 1167, 7, 1002]),
  ((1, 86), (1, 1, [(1, 16)]), (⟨"DoorBench$Tape", "either", "(I)J"⟩, "", ""), [1170, 1172, 8, 1002]),
  ((1, 89), (1, 1, [(1, 17)]), (⟨"DoorBench$Tape", "simple", "(I)J"⟩, "", ""), [1174, 1176, 9, 1002]),
  ((1, 92), (1, 1, [(1, 18)]), (⟨"DoorBench$Tape", "yesSets", "(I)J"⟩, "", ""), [1178, 1180, 10, 1002]),
  ((1, 95), (1, 2, [(1, 19)]), (⟨"DoorBench$Tape", "atLeast", "(II)J"⟩, "", ""), [1184, 1186, 11, 1002]),
  ((0, 66), (1, 0, [(1, 22)]), (⟨"DoorBench$Tape", "told", "()LDoorBench$Agenda;"⟩, "", ""), [1194, 1195, 1196, 1002]),
  ((2, 50), (1, 2, [(2, 24)]), (⟨"DoorBench$Agenda", "keptWithout", "(II)J"⟩, "", ""), [1205, 1207, 12, 1005]),
  ((2, 69), (1, 0, [(2, 26)]), (⟨"DoorBench$Agenda", "listSets", "()V"⟩, "", ""), [1215, 1217, 13, 1005]),
  ((2, 72), (1, 1, [(2, 27)]), (⟨"DoorBench$Agenda", "isLawful", "(I)Z"⟩, "", ""), [1219, 1220, 1221, 1005]),
  ((2, 76), (1, 1, [(2, 28)]), (⟨"DoorBench$Agenda", "hasSet", "(I)Z"⟩, "", ""), [1223, 1224, 1225, 1005]),
  ((0, 70), (1, 1, [(0, 29)]), (⟨"DoorBench", "found", "(LDoorBench$Agenda;)I"⟩, "", ""), [2046, 2048, 14, 1001]),
  ((0, 79), (1, 0, [(2, 30)]), (⟨"DoorBench$Agenda", "impossibleTies", "()I"⟩, "", ""), [2050, 2051, 2052, 1005]),
  ((2, 100), (1, 1, [(2, 32)]), (⟨"DoorBench$Agenda", "noneKeeps", "(I)Z"⟩, "", ""), [2060, 2062, 15, 1005]),
  ((13, 23), (1, 2, [(0, 34)]), (⟨"DoorBench", "of", "(II)I"⟩, "", ""), [2127, 2128, 2129, 1001]),
  ((0, 85), (1, 1, [(0, 35)]), (⟨"DoorBench", "benchOf", "(I)LDoorBench$Bench;"⟩, "", ""), [2131, 2133, 16, 1001]),
  ((13, 27), (1, 2, [(0, 36)]), (⟨"DoorBench", "lawful", "(II)I"⟩, "", ""), [2135, 2136, 2137, 1001]),
  ((0, 108), (1, 1, [(0, 37)]), (⟨"DoorBench", "agendaOf", "(I)LDoorBench$Agenda;"⟩, "", ""), [2139, 2141, 17, 1001]),
  ((13, 31), (1, 2, [(0, 38)]), (⟨"DoorBench", "broken", "(II)I"⟩, "", ""), [2143, 2144, 2145, 1001]),
  ((0, 112), (1, 1, [(2, 28)]), (⟨"DoorBench$Agenda", "hasSet", "(I)Z"⟩, "", ""), [2147, 1224, 1225, 1005]),
  ((0, 116), (1, 1, [(2, 39)]), (⟨"DoorBench$Agenda", "answersOf", "(I)I"⟩, "", ""), [2148, 2149, 2150, 1005]),
  ((0, 120), (1, 1, [(2, 40)]), (⟨"DoorBench$Agenda", "tiesBrokenBy", "(I)I"⟩, "", ""), [2152, 2153, 2154, 1005]),
  ((2, 94), (1, 2, [(2, 41)]), (⟨"DoorBench$Agenda", "setsHaving", "(II)J"⟩, "", ""), [2156, 2158, 18, 1005]),
  ((13, 35), (1, 3, [(0, 42)]), (⟨"DoorBench", "stands", "(III)I"⟩, "", ""), [2161, 2162, 2163, 1001]),
  ((0, 123), (1, 2, [(2, 43)]), (⟨"DoorBench$Agenda", "canBeTold", "(II)Z"⟩, "", ""), [2165, 2166, 2167, 1005]),
  ((0, 126), (1, 1, [(2, 44)]), (⟨"DoorBench$Agenda", "canStand", "(I)Z"⟩, "", ""), [2169, 2170, 2171, 1005]),
  ((2, 83), (1, 2, [(2, 45)]), (⟨"DoorBench$Agenda", "having", "(II)J"⟩, "", ""), [2173, 2175, 19, 1005]),
  ((2, 79), (1, 1, [(2, 46)]), (⟨"DoorBench$Agenda", "wholeSpan", "(I)J"⟩, "", ""), [2177, 2178, 2179, 1005]),
  ((13, 40), (1, 4, [(0, 47)]), (⟨"DoorBench", "forced", "(IIII)I"⟩, "", ""), [2181, 2182, 2183, 1001]),
  ((0, 129), (1, 1, [(2, 48)]), (⟨"DoorBench$Agenda", "hasQuestion", "(I)Z"⟩, "", ""), [2185, 2186, 2187, 1005]),
  ((0, 132), (1, 1, [(2, 49)]), (⟨"DoorBench$Agenda", "implied", "(I)I"⟩, "", ""), [2189, 2190, 2191, 1005]),
  ((13, 45), (1, 3, [(0, 50)]), (⟨"DoorBench", "why", "(III)I"⟩, "", ""), [2193, 2194, 2195, 1001]),
  ((0, 135), (1, 1, [(2, 51)]), (⟨"DoorBench$Agenda", "smallestFallen", "(I)I"⟩, "", ""), [2197, 2198, 2199, 1005]),
  ((2, 91), (1, 1, [(2, 44)]), (⟨"DoorBench$Agenda", "canStand", "(I)Z"⟩, "", ""), [2201, 2170, 2171, 1005]),
  ((13, 49), (1, 4, [(0, 52)]), (⟨"DoorBench", "judge", "(IIII)I"⟩, "", ""), [2202, 2203, 2204, 1001]),
  ((0, 138), (1, 3, [(3, 53)]), (⟨"DoorBench$Bench", "seat", "(III)V"⟩, "", ""), [2206, 2207, 2208, 1009]),
  ((3, 59), (1, 3, [(3, 54)]), (⟨"DoorBench$Bench", "alter", "(III)V"⟩, "", ""), [2210, 2211, 2212, 1009]),
  ((13, 53), (1, 4, [(0, 55)]), (⟨"DoorBench", "change", "(IIII)I"⟩, "", ""), [2214, 2215, 2216, 1001]),
  ((0, 142), (1, 1, [(3, 56)]), (⟨"DoorBench$Bench", "hasJudge", "(I)Z"⟩, "", ""), [2218, 2219, 2220, 1009]),
  ((0, 145), (1, 3, [(3, 54)]), (⟨"DoorBench$Bench", "alter", "(III)V"⟩, "", ""), [2222, 2211, 2212, 1009]),
  ((13, 57), (1, 4, [(0, 57)]), (⟨"DoorBench", "read", "(IIII)I"⟩, "", ""), [2223, 2224, 2225, 1001]),
  ((0, 151), (1, 3, [(0, 59)]), (⟨"DoorBench", "answersFrom", "(III)I"⟩, "", ""), [2230, 2232, 20, 1001]),
  ((13, 61), (1, 1, [(0, 60)]), (⟨"DoorBench", "clear", "(I)I"⟩, "", ""), [2235, 2236, 2237, 1001]),
  ((0, 160), (1, 0, [(3, 61)]), (⟨"DoorBench$Bench", "dismiss", "()V"⟩, "", ""), [2239, 3000, 3001, 1009]),
  ((13, 66), (1, 3, [(0, 62)]), (⟨"DoorBench", "ofJudge", "(III)I"⟩, "", ""), [3004, 3005, 3006, 1001]),
  ((13, 70), (1, 3, [(0, 63)]), (⟨"DoorBench", "votes", "(III)I"⟩, "", ""), [3008, 3009, 3010, 1001]),
  ((0, 175), (1, 2, [(3, 65)]), (⟨"DoorBench$Bench", "weightOn", "(I[I)I"⟩, "", ""), [3015, 3016, 3017, 1009]),
  ((13, 74), (1, 2, [(0, 66)]), (⟨"DoorBench", "far", "(II)I"⟩, "", ""), [3019, 3020, 3021, 1001]),
  ((0, 179), (1, 1, [(3, 67)]), (⟨"DoorBench$Bench", "distance", "(I)I"⟩, "", ""), [3023, 3024, 3025, 1009]),
  ((13, 78), (1, 2, [(0, 68)]), (⟨"DoorBench", "nearest", "(II)I"⟩, "", ""), [3028, 3029, 3030, 1001])]
def z_cV1 : List ((Nat × Nat) × (Nat × Nat × List (Nat × Nat)) × (MethodName × String × String) × List Nat) := [((0, 182), (1, 1, [(3, 69)]), (⟨"DoorBench$Bench", "nearestAt", "(I)I"⟩, "", ""), [3032, 3033, 3034, 1009]),
  ((3, 98), (1, 0, [(3, 70)]), (⟨"DoorBench$Bench", "sumLeans", "()V"⟩, "", ""), [3036, 3038, 21, 1009]),
  ((3, 104), (1, 1, [(3, 72)]), (⟨"DoorBench$Bench", "leanOf", "(I)I"⟩, "", ""), [3050, 3052, 22, 1009]),
  ((13, 82), (1, 3, [(0, 73)]), (⟨"DoorBench", "way", "(III)I"⟩, "", ""), [3054, 3055, 3056, 1001]),
  ((0, 191), (1, 3, [(0, 74)]), (⟨"DoorBench", "bodyOf", "(III)LDoorBench$Way;"⟩, "", ""), [3060, 3062, 23, 1001]),
  ((13, 86), (1, 2, [(0, 83)]), (⟨"DoorBench", "ofWay", "(II)I"⟩, "", ""), [3178, 3179, 3180, 1001]),
  ((0, 221), (1, 1, [(0, 84)]), (⟨"DoorBench", "bodyAt", "(I)LDoorBench$Way;"⟩, "", ""), [3182, 3184, 24, 1001]),
  ((13, 90), (1, 3, [(0, 85)]), (⟨"DoorBench", "outcome", "(III)I"⟩, "", ""), [3186, 3187, 3188, 1001]),
  ((0, 234), (2, 1, [(4, 101), (10, 86), (7, 93), (5, 97), (11, 98), (8, 99), (6, 100), (9, 86)]), (⟨"DoorBench$Way", "decide", "(LDoorBench$Bench;)I"⟩, "DoorBench$Way", ""), [3190, 3193, 3191, 3192, 3191, 1011, 3194, 3195, 1016, 3223, 3224, 1014, 4000, 4001, 1012, 4004, 4005, 1018, 4009, 4010, 1015, 4015, 4016, 1013, 4021, 3195, 1016]),
  ((9, 13), (1, 1, [(3, 87)]), (⟨"DoorBench$Bench", "orderFrom", "(I)V"⟩, "", ""), [3197, 3198, 3199, 1009]),
  ((9, 19), (2, 1, [(9, 89), (10, 88)]), (⟨"DoorBench$Turns", "openYes", "(LDoorBench$Bench;)I"⟩, "DoorBench$Turns", ""), [3201, 3204, 3202, 3203, 3202, 1016, 3205, 3206, 1017]),
  ((10, 13), (1, 1, [(3, 56)]), (⟨"DoorBench$Bench", "hasJudge", "(I)Z"⟩, "", ""), [3208, 2219, 2220, 1009]),
  ((9, 23), (1, 1, [(3, 90)]), (⟨"DoorBench$Bench", "inTurns", "(I)I"⟩, "", ""), [3210, 3211, 3212, 1009]),
  ((3, 107), (1, 1, [(2, 46)]), (⟨"DoorBench$Agenda", "wholeSpan", "(I)J"⟩, "", ""), [3214, 2178, 2179, 1005]),
  ((3, 111), (1, 2, [(3, 91)]), (⟨"DoorBench$Bench", "isYesInTurn", "(IZ)Z"⟩, "", ""), [3215, 3217, 25, 1009]),
  ((3, 115), (1, 3, [(2, 92)]), (⟨"DoorBench$Agenda", "answering", "(IZI)J"⟩, "", ""), [3219, 3220, 3221, 1005]),
  ((7, 23), (1, 0, [(3, 95)]), (⟨"DoorBench$Bench", "byHeads", "()I"⟩, "", ""), [3229, 3230, 3231, 1009]),
  ((7, 27), (1, 1, [(3, 96)]), (⟨"DoorBench$Bench", "nearestWith", "(I)I"⟩, "", ""), [3233, 3234, 3235, 1009]),
  ((3, 90), (1, 0, [(3, 95)]), (⟨"DoorBench$Bench", "byHeads", "()I"⟩, "", ""), [3237, 3230, 3231, 1009]),
  ((3, 94), (1, 1, [(2, 27)]), (⟨"DoorBench$Agenda", "isLawful", "(I)Z"⟩, "", ""), [3238, 1220, 1221, 1005]),
  ((7, 30), (1, 1, [(2, 39)]), (⟨"DoorBench$Agenda", "answersOf", "(I)I"⟩, "", ""), [3239, 2149, 2150, 1005]),
  ((5, 7), (1, 0, [(3, 95)]), (⟨"DoorBench$Bench", "byHeads", "()I"⟩, "", ""), [4003, 3230, 3231, 1009]),
  ((11, 15), (1, 1, [(3, 56)]), (⟨"DoorBench$Bench", "hasJudge", "(I)Z"⟩, "", ""), [4007, 2219, 2220, 1009]),
  ((11, 32), (1, 1, [(2, 49)]), (⟨"DoorBench$Agenda", "implied", "(I)I"⟩, "", ""), [4008, 2190, 2191, 1005]),
  ((8, 13), (1, 1, [(3, 96)]), (⟨"DoorBench$Bench", "nearestWith", "(I)I"⟩, "", ""), [4012, 3234, 3235, 1009]),
  ((8, 23), (1, 1, [(2, 39)]), (⟨"DoorBench$Agenda", "answersOf", "(I)I"⟩, "", ""), [4014, 2149, 2150, 1005]),
  ((6, 23), (1, 0, [(3, 95)]), (⟨"DoorBench$Bench", "byHeads", "()I"⟩, "", ""), [4019, 3230, 3231, 1009]),
  ((6, 27), (1, 1, [(2, 49)]), (⟨"DoorBench$Agenda", "implied", "(I)I"⟩, "", ""), [4020, 2190, 2191, 1005]),
  ((13, 94), (1, 2, [(0, 102)]), (⟨"DoorBench", "benches", "(II)I"⟩, "", ""), [4023, 4024, 4025, 1001]),
  ((0, 241), (1, 2, [(0, 103)]), (⟨"DoorBench", "refusalOfAll", "(II)I"⟩, "", ""), [4027, 4029, 26, 1001]),
  ((0, 245), (1, 1, [(3, 104)]), (⟨"DoorBench$Bench", "manyOf", "(I)I"⟩, "", ""), [4031, 4032, 4033, 1009]),
  ((13, 98), (1, 4, [(0, 106)]), (⟨"DoorBench", "unlawful", "(IIII)I"⟩, "", ""), [4040, 4041, 4042, 1001]),
  ((0, 248), (2, 3, [(4, 107), (10, 107), (7, 107), (5, 107), (11, 107), (8, 107), (6, 107), (9, 107)]), (⟨"DoorBench$Way", "unlawfulOnes", "(LDoorBench$Bench;IZ)I"⟩, "DoorBench$Way", ""), [4044, 4047, 4045, 4046, 4045, 1011, 4048, 4045, 1011, 4049, 4045, 1011, 4050, 4045, 1011, 4051, 4045, 1011, 4052, 4045, 1011, 4053, 4045, 1011, 4054, 4045, 1011]),
  ((4, 45), (1, 1, [(3, 108)]), (⟨"DoorBench$Bench", "sitFirst", "(I)I"⟩, "", ""), [4056, 4057, 4058, 1009]),
  ((3, 139), (1, 0, [(3, 61)]), (⟨"DoorBench$Bench", "dismiss", "()V"⟩, "", ""), [4060, 3000, 3001, 1009]),
  ((3, 142), (1, 3, [(3, 53)]), (⟨"DoorBench$Bench", "seat", "(III)V"⟩, "", ""), [4061, 2207, 2208, 1009]),
  ((3, 145), (1, 1, [(3, 104)]), (⟨"DoorBench$Bench", "manyOf", "(I)I"⟩, "", ""), [4062, 4032, 4033, 1009]),
  ((4, 54), (2, 1, [(4, 101), (10, 86), (7, 93), (5, 97), (11, 98), (8, 99), (6, 100), (9, 86)]), (⟨"DoorBench$Way", "decide", "(LDoorBench$Bench;)I"⟩, "DoorBench$Way", ""), [4063, 3193, 3191, 3192, 3191, 1011, 3194, 3195, 1016, 3223, 3224, 1014, 4000, 4001, 1012, 4004, 4005, 1018, 4009, 4010, 1015, 4015, 4016, 1013, 4021, 3195, 1016]),
  ((4, 58), (1, 1, [(2, 44)]), (⟨"DoorBench$Agenda", "canStand", "(I)Z"⟩, "", ""), [4064, 2170, 2171, 1005]),
  ((4, 64), (1, 0, [(3, 109)]), (⟨"DoorBench$Bench", "toldNumbers", "()I"⟩, "", ""), [4065, 4066, 4067, 1009]),
  ((4, 68), (1, 0, [(3, 110)]), (⟨"DoorBench$Bench", "sitNext", "()V"⟩, "", ""), [4069, 4070, 4071, 1009]),
  ((3, 148), (1, 0, [(3, 111)]), (⟨"DoorBench$Bench", "settle", "()V"⟩, "", ""), [4073, 4074, 4075, 1009]),
  ((13, 102), (1, 5, [(0, 112)]), (⟨"DoorBench", "unlike", "(IIIII)I"⟩, "", ""), [4077, 4078, 4079, 1001]),
  ((0, 252), (2, 4, [(4, 113), (10, 113), (7, 113), (5, 113), (11, 113), (8, 113), (6, 113), (9, 113)]), (⟨"DoorBench$Way", "unlikeOnes", "(LDoorBench$Way;LDoorBench$Bench;IZ)I"⟩, "DoorBench$Way", ""), [4081, 4084, 4082, 4083, 4082, 1011, 4085, 4082, 1011, 4086, 4082, 1011, 4087, 4082, 1011, 4088, 4082, 1011, 4089, 4082, 1011, 4090, 4082, 1011, 4091, 4082, 1011]),
  ((13, 107), (1, 4, [(0, 114)]), (⟨"DoorBench", "sway", "(IIII)I"⟩, "", ""), [4093, 4094, 4095, 1001]),
  ((0, 256), (2, 3, [(4, 115), (10, 115), (7, 115), (5, 115), (11, 115), (8, 115), (6, 115), (9, 115)]), (⟨"DoorBench$Way", "yesOnes", "(LDoorBench$Bench;II)I"⟩, "DoorBench$Way", ""), [4097, 4100, 4098, 4099, 4098, 1011, 4101, 4098, 1011, 4102, 4098, 1011, 4103, 4098, 1011, 4104, 4098, 1011, 4105, 4098, 1011, 4106, 4098, 1011, 4107, 4098, 1011]),
  ((13, 111), (1, 3, [(0, 116)]), (⟨"DoorBench", "twist", "(III)I"⟩, "", ""), [4109, 4110, 4111, 1001]),
  ((0, 260), (1, 1, [(3, 117)]), (⟨"DoorBench$Bench", "isSilent", "(I)Z"⟩, "", ""), [4113, 4114, 4115, 1009]),
  ((0, 263), (2, 2, [(4, 118), (10, 118), (7, 118), (5, 118), (11, 118), (8, 118), (6, 118), (9, 118)]), (⟨"DoorBench$Way", "bestTwist", "(LDoorBench$Bench;I)I"⟩, "DoorBench$Way", ""), [4117, 4120, 4118, 4119, 4118, 1011, 4121, 4118, 1011, 4122, 4118, 1011, 4123, 4118, 1011, 4124, 4118, 1011, 4125, 4118, 1011, 4126, 4118, 1011, 4127, 4118, 1011]),
  ((4, 74), (1, 1, [(2, 39)]), (⟨"DoorBench$Agenda", "answersOf", "(I)I"⟩, "", ""), [4129, 2149, 2150, 1005]),
  ((4, 91), (1, 3, [(3, 54)]), (⟨"DoorBench$Bench", "alter", "(III)V"⟩, "", ""), [4131, 2211, 2212, 1009]),
  ((13, 115), (1, 3, [(0, 119)]), (⟨"DoorBench", "twisted", "(III)I"⟩, "", ""), [4132, 4133, 4134, 1001]),
  ((0, 270), (2, 3, [(4, 120), (10, 120), (7, 120), (5, 120), (11, 120), (8, 120), (6, 120), (9, 120)]), (⟨"DoorBench$Way", "twistedOnes", "(LDoorBench$Bench;I[I)I"⟩, "DoorBench$Way", ""), [4136, 4139, 4137, 4138, 4137, 1011, 4140, 4137, 1011, 4141, 4137, 1011, 4142, 4137, 1011, 4143, 4137, 1011, 4144, 4137, 1011, 4145, 4137, 1011, 4146, 4137, 1011]),
  ((4, 101), (1, 0, [(3, 121)]), (⟨"DoorBench$Bench", "rank", "()I"⟩, "", ""), [4149, 4150, 4151, 1009]),
  ((4, 104), (2, 3, [(4, 122), (5, 122), (6, 122), (7, 122), (8, 122), (9, 122), (10, 122), (11, 122)]), (⟨"DoorBench$Way", "recall", "(LDoorBench$Bench;I[I)I"⟩, "DoorBench$Way", ""), [4153, 8141, 4155, 27, 4155, 1011, 9000, 4155, 1011, 9001, 4155, 1011, 9002, 4155, 1011, 9003, 4155, 1011, 9004, 4155, 1011, 9005, 4155, 1011, 9006, 4155, 1011]),
  ((4, 128), (2, 2, [(4, 125), (10, 123), (7, 125), (5, 125), (11, 124), (8, 125), (6, 125), (9, 125)]), (⟨"DoorBench$Way", "placeOf", "(LDoorBench$Bench;I)I"⟩, "DoorBench$Way", ""), [4157, 4160, 4158, 4159, 4158, 1011, 4161, 4162, 1017, 4164, 4158, 1011, 4165, 4158, 1011, 4166, 4167, 1018, 4169, 4158, 1011, 4170, 4158, 1011, 4171, 4158, 1011]),
  ((4, 132), (1, 0, [(3, 111)]), (⟨"DoorBench$Bench", "settle", "()V"⟩, "", ""), [4173, 4074, 4075, 1009]),
  ((4, 111), (2, 4, [(4, 126), (5, 126), (6, 126), (7, 126), (8, 126), (9, 126), (10, 126), (11, 126)]), (⟨"DoorBench$Way", "twists", "(LDoorBench$Bench;II[I)Z"⟩, "DoorBench$Way", ""), [4174, 8142, 4176, 28, 4176, 1011, 9007, 4176, 1011, 9008, 4176, 1011, 9009, 4176, 1011, 9010, 4176, 1011, 9011, 4176, 1011, 9012, 4176, 1011, 9013, 4176, 1011]),
  ((4, 118), (1, 1, [(3, 127)]), (⟨"DoorBench$Bench", "rankOfOthers", "(I)I"⟩, "", ""), [4178, 4179, 4180, 1009]),
  ((3, 151), (1, 2, [(3, 128)]), (⟨"DoorBench$Bench", "otherThan", "(II)I"⟩, "", ""), [4182, 4183, 4184, 1009])]
def z_cV2 : List ((Nat × Nat) × (Nat × Nat × List (Nat × Nat)) × (MethodName × String × String) × List Nat) := [((4, 121), (1, 2, [(3, 128)]), (⟨"DoorBench$Bench", "otherThan", "(II)I"⟩, "", ""), [4186, 4183, 4184, 1009]),
  ((13, 119), (1, 4, [(0, 129)]), (⟨"DoorBench", "breach", "(IIII)I"⟩, "", ""), [4188, 4189, 4190, 1001]),
  ((0, 274), (1, 2, [(0, 130)]), (⟨"DoorBench", "refusalOfRows", "(II)I"⟩, "", ""), [4192, 4194, 29, 1001]),
  ((0, 277), (2, 3, [(4, 131), (10, 131), (7, 131), (5, 131), (11, 131), (8, 131), (6, 131), (9, 131)]), (⟨"DoorBench$Way", "decideRows", "(LDoorBench$Bench;I[I)V"⟩, "DoorBench$Way", ""), [4196, 4199, 4197, 4198, 4197, 1011, 4200, 4197, 1011, 4201, 4197, 1011, 4202, 4197, 1011, 4203, 4197, 1011, 4204, 4197, 1011, 4205, 4197, 1011, 4206, 4197, 1011]),
  ((4, 135), (1, 0, [(3, 132)]), (⟨"DoorBench$Bench", "manyRows", "()I"⟩, "", ""), [4208, 4209, 4210, 1009]),
  ((4, 138), (1, 1, [(3, 133)]), (⟨"DoorBench$Bench", "sitRow", "(I)V"⟩, "", ""), [4212, 4213, 4214, 1009]),
  ((3, 157), (1, 1, [(3, 134)]), (⟨"DoorBench$Bench", "numberAll", "(I)V"⟩, "", ""), [4216, 4218, 30, 1009]),
  ((3, 154), (1, 2, [(3, 135)]), (⟨"DoorBench$Bench", "numberIn", "(II)I"⟩, "", ""), [4220, 4222, 31, 1009]),
  ((0, 281), (1, 2, [(3, 136)]), (⟨"DoorBench$Bench", "breachOf", "(I[I)I"⟩, "", ""), [4224, 4225, 4226, 1009]),
  ((3, 164), (1, 0, [(3, 132)]), (⟨"DoorBench$Bench", "manyRows", "()I"⟩, "", ""), [4228, 4209, 4210, 1009]),
  ((3, 167), (1, 2, [(3, 137)]), (⟨"DoorBench$Bench", "firstUnalike", "([II)I"⟩, "", ""), [4229, 4231, 32, 1009]),
  ((3, 183), (1, 1, [(3, 138)]), (⟨"DoorBench$Bench", "rowInOrder", "(I)I"⟩, "", ""), [4233, 4235, 33, 1009]),
  ((3, 171), (1, 2, [(3, 139)]), (⟨"DoorBench$Bench", "firstNotOwn", "([II)I"⟩, "", ""), [4237, 4239, 34, 1009]),
  ((3, 186), (1, 1, [(3, 140)]), (⟨"DoorBench$Bench", "whoSaysYes", "(I)I"⟩, "", ""), [5001, 5003, 35, 1009]),
  ((3, 174), (1, 2, [(3, 141)]), (⟨"DoorBench$Bench", "firstOtherMind", "([II)I"⟩, "", ""), [5005, 5007, 36, 1009]),
  ((3, 189), (1, 1, [(2, 39)]), (⟨"DoorBench$Agenda", "answersOf", "(I)I"⟩, "", ""), [5009, 2149, 2150, 1005]),
  ((3, 177), (1, 2, [(3, 142)]), (⟨"DoorBench$Bench", "firstUnlawful", "([II)I"⟩, "", ""), [5010, 5012, 37, 1009]),
  ((3, 192), (1, 1, [(2, 44)]), (⟨"DoorBench$Agenda", "canStand", "(I)Z"⟩, "", ""), [5014, 2170, 2171, 1005]),
  ((3, 180), (1, 2, [(3, 143)]), (⟨"DoorBench$Bench", "firstSomebody", "([II)I"⟩, "", ""), [5015, 5017, 38, 1009]),
  ((13, 123), (1, 3, [(0, 144)]), (⟨"DoorBench", "keeper", "(III)I"⟩, "", ""), [5019, 5020, 5021, 1001]),
  ((0, 284), (1, 2, [(3, 145)]), (⟨"DoorBench$Bench", "keepsAll", "(I[I)Z"⟩, "", ""), [5023, 5024, 5025, 1009]),
  ((3, 160), (1, 2, [(3, 136)]), (⟨"DoorBench$Bench", "breachOf", "(I[I)I"⟩, "", ""), [5027, 4225, 4226, 1009]),
  ((13, 127), (1, 3, [(0, 146)]), (⟨"DoorBench", "mend", "(III)I"⟩, "", ""), [5028, 5029, 5030, 1001]),
  ((0, 288), (1, 2, [(2, 147)]), (⟨"DoorBench$Agenda", "mendBy", "(II)I"⟩, "", ""), [5032, 5033, 5034, 1005]),
  ((2, 103), (1, 2, [(2, 148)]), (⟨"DoorBench$Agenda", "isSafeWithout", "(II)Z"⟩, "", ""), [5036, 5038, 39, 1005]),
  ((2, 107), (1, 1, [(2, 149)]), (⟨"DoorBench$Agenda", "listFew", "(I)I"⟩, "", ""), [5040, 5042, 40, 1005]),
  ((2, 110), (1, 1, [(2, 151)]), (⟨"DoorBench$Agenda", "foursStand", "(I)Z"⟩, "", ""), [5048, 5050, 41, 1005]),
  ((2, 119), (1, 3, [(2, 152)]), (⟨"DoorBench$Agenda", "someOfFew", "(III)Z"⟩, "", ""), [5052, 5054, 42, 1005]),
  ((2, 113), (1, 1, [(2, 153)]), (⟨"DoorBench$Agenda", "threesStand", "(I)Z"⟩, "", ""), [5056, 5058, 43, 1005]),
  ((13, 131), (1, 3, [(0, 154)]), (⟨"DoorBench", "orders", "(III)I"⟩, "", ""), [5060, 5061, 5062, 1001]),
  ((0, 291), (1, 2, [(3, 155)]), (⟨"DoorBench$Bench", "ordersFor", "(IZ)I"⟩, "", ""), [5064, 5065, 5066, 1009]),
  ((3, 119), (1, 1, [(3, 87)]), (⟨"DoorBench$Bench", "orderFrom", "(I)V"⟩, "", ""), [5068, 3198, 3199, 1009]),
  ((3, 123), (1, 1, [(3, 90)]), (⟨"DoorBench$Bench", "inTurns", "(I)I"⟩, "", ""), [5069, 3211, 3212, 1009]),
  ((3, 126), (1, 0, [(3, 156)]), (⟨"DoorBench$Bench", "orderDigits", "()I"⟩, "", ""), [5070, 5072, 44, 1009]),
  ((3, 129), (1, 0, [(3, 157)]), (⟨"DoorBench$Bench", "nextOrder", "()V"⟩, "", ""), [5074, 5076, 45, 1009]),
  ((3, 132), (1, 2, [(3, 158)]), (⟨"DoorBench$Bench", "swapOrder", "(II)V"⟩, "", ""), [5078, 5080, 46, 1009]),
  ((13, 135), (1, 3, [(0, 159)]), (⟨"DoorBench", "act", "(III)I"⟩, "", ""), [5082, 5083, 5084, 1001]),
  ((0, 295), (2, 1, [(4, 163), (10, 163), (7, 160), (5, 160), (11, 163), (8, 162), (6, 160), (9, 163)]), (⟨"DoorBench$Way", "counts", "(I)I"⟩, "DoorBench$Way", ""), [5086, 5089, 5087, 5088, 5087, 1011, 5090, 5087, 1011, 5091, 5092, 1012, 5103, 5092, 1012, 5104, 5087, 1011, 5105, 5106, 1015, 5112, 5092, 1012, 5113, 5087, 1011]),
  ((5, 13), (2, 1, [(7, 161), (5, 161), (6, 161)]), (⟨"DoorBench$Heads", "note", "(I)V"⟩, "DoorBench$Way", ""), [5094, 5095, 5100, 5097, 5100, 1011, 5098, 5100, 1011, 5099, 5100, 1011]),
  ((8, 28), (2, 1, [(8, 161)]), (⟨"DoorBench$Near", "note", "(I)V"⟩, "DoorBench$Way", ""), [5108, 5109, 5100, 5110, 5100, 1011]),
  ((4, 31), (2, 1, [(10, 161), (7, 161), (5, 161), (11, 161), (8, 161), (6, 161), (9, 161), (4, 161)]), (⟨"DoorBench$Way", "note", "(I)V"⟩, "DoorBench$Way", ""), [5115, 8143, 5100, 8144, 5100, 1011, 8145, 5100, 1011, 8146, 5100, 1011, 8147, 5100, 1011, 8148, 5100, 1011, 8149, 5100, 1011, 8150, 5100, 1011, 8151, 5100, 1011]),
  ((0, 298), (2, 1, [(4, 167), (10, 164), (7, 167), (5, 167), (11, 167), (8, 167), (6, 166), (9, 165)]), (⟨"DoorBench$Way", "weighs", "(I)I"⟩, "DoorBench$Way", ""), [5116, 5119, 5117, 5118, 5117, 1011, 5120, 5121, 1017, 5134, 5117, 1011, 5135, 5117, 1011, 5136, 5117, 1011, 5137, 5117, 1011, 5138, 5139, 1013, 5151, 5127, 1016]),
  ((10, 38), (2, 1, [(10, 161)]), (⟨"DoorBench$Chair", "note", "(I)V"⟩, "DoorBench$Way", ""), [5123, 5124, 5100, 5125, 5100, 1011]),
  ((9, 27), (2, 1, [(10, 161), (9, 161)]), (⟨"DoorBench$Turns", "note", "(I)V"⟩, "DoorBench$Way", ""), [5129, 5130, 5100, 5131, 5100, 1011, 5132, 5100, 1011]),
  ((6, 30), (2, 1, [(6, 161)]), (⟨"DoorBench$Premises", "note", "(I)V"⟩, "DoorBench$Way", ""), [5141, 5142, 5100, 5143, 5100, 1011]),
  ((6, 39), (2, 1, [(6, 160)]), (⟨"DoorBench$Premises", "counts", "(I)I"⟩, "DoorBench$Heads", ""), [5147, 5148, 5092, 5150, 5092, 1012]),
  ((4, 35), (2, 1, [(4, 163), (10, 163), (7, 160), (5, 160), (11, 163), (8, 162), (6, 160), (9, 163)]), (⟨"DoorBench$Way", "counts", "(I)I"⟩, "DoorBench$Way", ""), [5153, 5089, 5087, 5088, 5087, 1011, 5090, 5087, 1011, 5091, 5092, 1012, 5103, 5092, 1012, 5104, 5087, 1011, 5105, 5106, 1015, 5112, 5092, 1012, 5113, 5087, 1011]),
  ((0, 301), (2, 1, [(4, 170), (10, 168), (7, 169), (5, 170), (11, 170), (8, 170), (6, 170), (9, 170)]), (⟨"DoorBench$Way", "binds", "(I)I"⟩, "DoorBench$Way", ""), [5154, 5157, 5155, 5156, 5155, 1011, 5158, 5159, 1017, 5164, 5165, 1014, 5172, 5155, 1011, 5173, 5155, 1011, 5174, 5155, 1011, 5175, 5155, 1011, 5176, 5155, 1011]),
  ((7, 33), (2, 1, [(7, 161)]), (⟨"DoorBench$Ends", "note", "(I)V"⟩, "DoorBench$Way", ""), [5167, 5168, 5100, 5169, 5100, 1011]),
  ((0, 304), (2, 1, [(4, 173), (10, 171), (7, 173), (5, 173), (11, 172), (8, 173), (6, 173), (9, 171)]), (⟨"DoorBench$Way", "tells", "(I)I"⟩, "DoorBench$Way", ""), [5178, 5181, 5179, 5180, 5179, 1011, 5182, 5183, 1016, 5186, 5179, 1011, 5187, 5179, 1011, 5188, 5189, 1018, 5196, 5179, 1011, 5197, 5179, 1011, 5198, 5183, 1016]),
  ((11, 44), (2, 1, [(11, 161)]), (⟨"DoorBench$Leader", "note", "(I)V"⟩, "DoorBench$Way", ""), [5191, 5192, 5100, 5193, 5100, 1011]),
  ((4, 39), (2, 1, [(4, 167), (10, 164), (7, 167), (5, 167), (11, 167), (8, 167), (6, 166), (9, 165)]), (⟨"DoorBench$Way", "weighs", "(I)I"⟩, "DoorBench$Way", ""), [5200, 5119, 5117, 5118, 5117, 1011, 5120, 5121, 1017, 5134, 5117, 1011, 5135, 5117, 1011, 5136, 5117, 1011, 5137, 5117, 1011, 5138, 5139, 1013, 5151, 5127, 1016]),
  ((4, 42), (2, 1, [(4, 170), (10, 168), (7, 169), (5, 170), (11, 170), (8, 170), (6, 170), (9, 170)]), (⟨"DoorBench$Way", "binds", "(I)I"⟩, "DoorBench$Way", ""), [5201, 5157, 5155, 5156, 5155, 1011, 5158, 5159, 1017, 5164, 5165, 1014, 5172, 5155, 1011, 5173, 5155, 1011, 5174, 5155, 1011, 5175, 5155, 1011, 5176, 5155, 1011]),
  ((13, 139), (1, 1, [(0, 174)]), (⟨"DoorBench", "trace", "(I)I"⟩, "", ""), [5202, 5203, 5204, 1001]),
  ((13, 143), (1, 2, [(0, 175)]), (⟨"DoorBench", "keep", "(II)I"⟩, "", ""), [5206, 5207, 5208, 1001]),
  ((13, 147), (1, 3, [(0, 176)]), (⟨"DoorBench", "row", "(III)I"⟩, "", ""), [5210, 5211, 5212, 1001]),
  ((13, 153), (1, 3, [(0, 177)]), (⟨"DoorBench", "put", "(IIJ)I"⟩, "", ""), [5215, 5216, 5217, 1001]),
  ((0, 313), (1, 2, [(0, 178)]), (⟨"DoorBench", "refusalOfPlace", "(II)I"⟩, "", ""), [5219, 5221, 47, 1001]),
  ((13, 158), (1, 2, [(0, 180)]), (⟨"DoorBench", "element", "(II)J"⟩, "", ""), [5226, 5227, 5228, 1001]),
  ((13, 163), (1, 5, [(0, 181)]), (⟨"DoorBench", "shift", "(IIIII)I"⟩, "", ""), [5231, 5232, 5233, 1001])]
def z_cV3 : List ((Nat × Nat) × (Nat × Nat × List (Nat × Nat)) × (MethodName × String × String) × List Nat) := [((0, 324), (1, 3, [(0, 182)]), (⟨"DoorBench", "hasPlaces", "(III)Z"⟩, "", ""), [5235, 5237, 48, 1001]),
  ((13, 167), (1, 2, [(0, 183)]), (⟨"DoorBench", "taken", "(II)I"⟩, "", ""), [6002, 6003, 6004, 1001]),
  ((0, 334), (2, 1, [(4, 184), (10, 184), (7, 184), (5, 184), (11, 184), (8, 184), (6, 184), (9, 184)]), (⟨"DoorBench$Way", "isUnder", "(I)Z"⟩, "DoorBench$Way", ""), [6006, 6009, 6007, 6008, 6007, 1011, 6010, 6007, 1011, 6011, 6007, 1011, 6012, 6007, 1011, 6013, 6007, 1011, 6014, 6007, 1011, 6015, 6007, 1011, 6016, 6007, 1011]),
  ((13, 171), (1, 1, [(0, 185)]), (⟨"DoorBench", "count", "(I)I"⟩, "", ""), [6019, 6020, 6021, 1001]),
  ((0, 337), (1, 0, [(0, 186)]), (⟨"DoorBench", "allJudges", "()I"⟩, "", ""), [6023, 6025, 49, 1001]),
  ((13, 17), (1, 2, [(12, 188)]), (⟨"DoorBenchModel", "feed", "(II)I"⟩, "", ""), [6193, 6194, 6195, 1003]),
  ((13, 22), (1, 0, [(12, 190)]), (⟨"DoorBenchModel", "agenda", "()I"⟩, "", ""), [6201, 6202, 6203, 1003]),
  ((12, 196), (1, 0, [(12, 191)]), (⟨"DoorBenchModel", "firstPart", "()V"⟩, "", ""), [6205, 6207, 50, 1003]),
  ((12, 147), (1, 1, [(12, 192)]), (⟨"DoorBenchModel", "takes", "(I)Z"⟩, "", ""), [6209, 6211, 51, 1003]),
  ((12, 139), (1, 0, [(12, 193)]), (⟨"DoorBenchModel", "byteAt", "()I"⟩, "", ""), [6213, 6215, 52, 1003]),
  ((12, 163), (1, 0, [(12, 194)]), (⟨"DoorBenchModel", "wrong", "()Z"⟩, "", ""), [6217, 6219, 53, 1003]),
  ((12, 179), (1, 1, [(12, 195)]), (⟨"DoorBenchModel", "questionOf", "(I)I"⟩, "", ""), [6223, 6225, 54, 1003]),
  ((12, 199), (1, 0, [(12, 196)]), (⟨"DoorBenchModel", "otherPart", "()V"⟩, "", ""), [6227, 6229, 55, 1003]),
  ((12, 190), (1, 0, [(12, 197)]), (⟨"DoorBenchModel", "letters", "()I"⟩, "", ""), [6231, 6233, 56, 1003]),
  ((12, 169), (1, 0, [(12, 198)]), (⟨"DoorBenchModel", "alike", "()Z"⟩, "", ""), [6235, 6237, 57, 1003]),
  ((12, 143), (1, 0, [(12, 199)]), (⟨"DoorBenchModel", "implied", "()Z"⟩, "", ""), [6239, 7001, 58, 1003]),
  ((12, 151), (1, 0, [(12, 200)]), (⟨"DoorBenchModel", "either", "()Z"⟩, "", ""), [7003, 7005, 59, 1003]),
  ((12, 154), (1, 0, [(12, 201)]), (⟨"DoorBenchModel", "both", "()Z"⟩, "", ""), [7007, 7009, 60, 1003]),
  ((12, 157), (1, 0, [(12, 202)]), (⟨"DoorBenchModel", "one", "()Z"⟩, "", ""), [7011, 7013, 61, 1003]),
  ((12, 166), (1, 0, [(12, 203)]), (⟨"DoorBenchModel", "opens", "()Z"⟩, "", ""), [7015, 7017, 62, 1003]),
  ((12, 176), (1, 1, [(12, 204)]), (⟨"DoorBenchModel", "atLeast", "(I)Z"⟩, "", ""), [7021, 7023, 63, 1003]),
  ((12, 202), (1, 3, [(12, 205)]), (⟨"DoorBenchModel", "keeps", "(III)Z"⟩, "", ""), [7025, 7027, 64, 1003]),
  ((12, 206), (1, 1, [(12, 206)]), (⟨"DoorBenchModel", "smallestPart", "(I)I"⟩, "", ""), [7029, 7031, 65, 1003]),
  ((13, 26), (1, 2, [(12, 208)]), (⟨"DoorBenchModel", "of", "(II)I"⟩, "", ""), [7036, 7037, 7038, 1003]),
  ((12, 209), (1, 1, [(12, 209)]), (⟨"DoorBenchModel", "isAgenda", "(I)Z"⟩, "", ""), [7040, 7042, 66, 1003]),
  ((13, 30), (1, 2, [(12, 210)]), (⟨"DoorBenchModel", "lawful", "(II)I"⟩, "", ""), [7044, 7045, 7046, 1003]),
  ((13, 34), (1, 2, [(12, 211)]), (⟨"DoorBenchModel", "broken", "(II)I"⟩, "", ""), [7048, 7049, 7050, 1003]),
  ((12, 212), (1, 2, [(12, 212)]), (⟨"DoorBenchModel", "isSet", "(II)Z"⟩, "", ""), [7052, 7054, 67, 1003]),
  ((13, 39), (1, 3, [(12, 213)]), (⟨"DoorBenchModel", "stands", "(III)I"⟩, "", ""), [7056, 7057, 7058, 1003]),
  ((12, 219), (1, 3, [(12, 214)]), (⟨"DoorBenchModel", "areAnswers", "(III)Z"⟩, "", ""), [7060, 7062, 68, 1003]),
  ((12, 222), (1, 3, [(12, 215)]), (⟨"DoorBenchModel", "canStand", "(III)Z"⟩, "", ""), [7064, 7066, 69, 1003]),
  ((13, 44), (1, 4, [(12, 217)]), (⟨"DoorBenchModel", "forced", "(IIII)I"⟩, "", ""), [7071, 7072, 7073, 1003]),
  ((12, 225), (1, 2, [(12, 218)]), (⟨"DoorBenchModel", "isQuestion", "(II)Z"⟩, "", ""), [7075, 7077, 70, 1003]),
  ((12, 228), (1, 4, [(12, 219)]), (⟨"DoorBenchModel", "forcedBy", "(IIII)I"⟩, "", ""), [7079, 7081, 71, 1003]),
  ((13, 48), (1, 3, [(12, 220)]), (⟨"DoorBenchModel", "why", "(III)I"⟩, "", ""), [7083, 7084, 7085, 1003]),
  ((13, 52), (1, 4, [(12, 221)]), (⟨"DoorBenchModel", "judge", "(IIII)I"⟩, "", ""), [7087, 7088, 7089, 1003]),
  ((13, 56), (1, 4, [(12, 222)]), (⟨"DoorBenchModel", "change", "(IIII)I"⟩, "", ""), [7092, 7093, 7094, 1003]),
  ((12, 234), (1, 2, [(12, 223)]), (⟨"DoorBenchModel", "isJudge", "(II)Z"⟩, "", ""), [7096, 7098, 72, 1003]),
  ((13, 60), (1, 4, [(12, 224)]), (⟨"DoorBenchModel", "read", "(IIII)I"⟩, "", ""), [7100, 7101, 7102, 1003]),
  ((13, 65), (1, 1, [(12, 226)]), (⟨"DoorBenchModel", "clear", "(I)I"⟩, "", ""), [7108, 7109, 7110, 1003]),
  ((13, 69), (1, 3, [(12, 227)]), (⟨"DoorBenchModel", "ofJudge", "(III)I"⟩, "", ""), [7112, 7113, 7114, 1003]),
  ((13, 73), (1, 3, [(12, 228)]), (⟨"DoorBenchModel", "votes", "(III)I"⟩, "", ""), [7117, 7118, 7119, 1003]),
  ((12, 255), (1, 1, [(12, 229)]), (⟨"DoorBenchModel", "sitDown", "(I)V"⟩, "", ""), [7121, 7123, 73, 1003]),
  ((12, 251), (1, 2, [(12, 230)]), (⟨"DoorBenchModel", "votesFor", "(II)I"⟩, "", ""), [7125, 7127, 74, 1003]),
  ((13, 77), (1, 2, [(12, 231)]), (⟨"DoorBenchModel", "far", "(II)I"⟩, "", ""), [7129, 7130, 7131, 1003]),
  ((12, 259), (1, 1, [(12, 232)]), (⟨"DoorBenchModel", "farFrom", "(I)I"⟩, "", ""), [7133, 7135, 75, 1003]),
  ((13, 81), (1, 2, [(12, 233)]), (⟨"DoorBenchModel", "nearest", "(II)I"⟩, "", ""), [7137, 7138, 7139, 1003]),
  ((12, 262), (1, 2, [(12, 234)]), (⟨"DoorBenchModel", "nearestOf", "(II)I"⟩, "", ""), [7141, 7143, 76, 1003]),
  ((13, 85), (1, 3, [(12, 235)]), (⟨"DoorBenchModel", "way", "(III)I"⟩, "", ""), [7145, 7146, 7147, 1003]),
  ((13, 89), (1, 2, [(12, 236)]), (⟨"DoorBenchModel", "ofWay", "(II)I"⟩, "", ""), [7151, 7152, 7153, 1003]),
  ((12, 272), (1, 1, [(12, 237)]), (⟨"DoorBenchModel", "isWay", "(I)Z"⟩, "", ""), [7155, 7157, 77, 1003]),
  ((13, 93), (1, 3, [(12, 238)]), (⟨"DoorBenchModel", "outcome", "(III)I"⟩, "", ""), [7159, 7160, 7161, 1003]),
  ((12, 303), (1, 1, [(12, 239)]), (⟨"DoorBenchModel", "find", "(I)V"⟩, "", ""), [7163, 7165, 78, 1003]),
  ((12, 248), (1, 0, [(12, 240)]), (⟨"DoorBenchModel", "all", "()I"⟩, "", ""), [7167, 7169, 79, 1003]),
  ((12, 288), (1, 1, [(12, 241)]), (⟨"DoorBenchModel", "byHeads", "(I)V"⟩, "", ""), [7171, 7173, 80, 1003]),
  ((12, 281), (1, 1, [(12, 242)]), (⟨"DoorBenchModel", "heads", "(I)I"⟩, "", ""), [7175, 7177, 81, 1003]),
  ((12, 284), (1, 2, [(12, 243)]), (⟨"DoorBenchModel", "answer", "(II)V"⟩, "", ""), [7179, 7181, 82, 1003]),
  ((12, 291), (1, 0, [(12, 244)]), (⟨"DoorBenchModel", "byPremises", "()V"⟩, "", ""), [7183, 7185, 83, 1003]),
  ((12, 294), (1, 0, [(12, 245)]), (⟨"DoorBenchModel", "byEnds", "()V"⟩, "", ""), [7187, 7189, 84, 1003]),
  ((12, 297), (1, 1, [(12, 246)]), (⟨"DoorBenchModel", "byTurns", "(I)V"⟩, "", ""), [7191, 7193, 85, 1003])]
def z_cV4 : List ((Nat × Nat) × (Nat × Nat × List (Nat × Nat)) × (MethodName × String × String) × List Nat) := [((12, 300), (1, 1, [(12, 247)]), (⟨"DoorBenchModel", "byLeader", "(I)V"⟩, "", ""), [7195, 7197, 86, 1003]),
  ((12, 306), (1, 0, [(12, 248)]), (⟨"DoorBenchModel", "brokenBy", "()I"⟩, "", ""), [7199, 7201, 87, 1003]),
  ((12, 309), (1, 0, [(12, 249)]), (⟨"DoorBenchModel", "isUnlawful", "()Z"⟩, "", ""), [7203, 7205, 88, 1003]),
  ((13, 97), (1, 2, [(12, 250)]), (⟨"DoorBenchModel", "benches", "(II)I"⟩, "", ""), [7207, 7208, 7209, 1003]),
  ((12, 320), (1, 2, [(12, 251)]), (⟨"DoorBenchModel", "noBenches", "(II)I"⟩, "", ""), [7211, 7213, 89, 1003]),
  ((12, 323), (1, 2, [(12, 252)]), (⟨"DoorBenchModel", "begin", "(II)V"⟩, "", ""), [7215, 7217, 90, 1003]),
  ((12, 312), (1, 0, [(12, 253)]), (⟨"DoorBenchModel", "seatAll", "()V"⟩, "", ""), [7219, 7221, 91, 1003]),
  ((12, 315), (1, 2, [(12, 254)]), (⟨"DoorBenchModel", "seat", "(II)V"⟩, "", ""), [7223, 7225, 92, 1003]),
  ((12, 326), (1, 1, [(12, 255)]), (⟨"DoorBenchModel", "goOn", "(Z)Z"⟩, "", ""), [7227, 7229, 93, 1003]),
  ((13, 101), (1, 4, [(12, 256)]), (⟨"DoorBenchModel", "unlawful", "(IIII)I"⟩, "", ""), [7231, 7232, 7233, 1003]),
  ((12, 330), (1, 0, [(12, 257)]), (⟨"DoorBenchModel", "code", "()I"⟩, "", ""), [7235, 7237, 94, 1003]),
  ((13, 106), (1, 5, [(12, 258)]), (⟨"DoorBenchModel", "unlike", "(IIIII)I"⟩, "", ""), [7239, 8000, 8001, 1003]),
  ((13, 110), (1, 4, [(12, 259)]), (⟨"DoorBenchModel", "sway", "(IIII)I"⟩, "", ""), [8003, 8004, 8005, 1003]),
  ((13, 114), (1, 3, [(12, 260)]), (⟨"DoorBenchModel", "twist", "(III)I"⟩, "", ""), [8007, 8008, 8009, 1003]),
  ((12, 336), (1, 2, [(12, 261)]), (⟨"DoorBenchModel", "twistOf", "(II)I"⟩, "", ""), [8011, 8013, 95, 1003]),
  ((12, 333), (1, 1, [(12, 262)]), (⟨"DoorBenchModel", "apart", "(I)I"⟩, "", ""), [8015, 8017, 96, 1003]),
  ((13, 118), (1, 3, [(12, 263)]), (⟨"DoorBenchModel", "twisted", "(III)I"⟩, "", ""), [8019, 8020, 8021, 1003]),
  ((13, 122), (1, 4, [(12, 264)]), (⟨"DoorBenchModel", "breach", "(IIII)I"⟩, "", ""), [8023, 8024, 8025, 1003]),
  ((12, 360), (1, 4, [(12, 265)]), (⟨"DoorBenchModel", "breachOf", "(IIII)I"⟩, "", ""), [8028, 8030, 97, 1003]),
  ((12, 345), (1, 3, [(12, 266)]), (⟨"DoorBenchModel", "findRows", "(III)V"⟩, "", ""), [8032, 8034, 98, 1003]),
  ((12, 342), (1, 2, [(12, 267)]), (⟨"DoorBenchModel", "setOf", "(II)I"⟩, "", ""), [8036, 8038, 99, 1003]),
  ((12, 349), (1, 2, [(12, 268)]), (⟨"DoorBenchModel", "sortedRow", "(II)I"⟩, "", ""), [8040, 8042, 100, 1003]),
  ((12, 352), (1, 2, [(12, 269)]), (⟨"DoorBenchModel", "isOwn", "(II)Z"⟩, "", ""), [8044, 8046, 101, 1003]),
  ((12, 355), (1, 2, [(12, 270)]), (⟨"DoorBenchModel", "isMinded", "(II)Z"⟩, "", ""), [8048, 8050, 102, 1003]),
  ((13, 126), (1, 3, [(12, 271)]), (⟨"DoorBenchModel", "keeper", "(III)I"⟩, "", ""), [8052, 8053, 8054, 1003]),
  ((13, 130), (1, 3, [(12, 272)]), (⟨"DoorBenchModel", "mend", "(III)I"⟩, "", ""), [8057, 8058, 8059, 1003]),
  ((12, 368), (1, 3, [(12, 273)]), (⟨"DoorBenchModel", "mends", "(III)Z"⟩, "", ""), [8061, 8063, 103, 1003]),
  ((13, 134), (1, 3, [(12, 274)]), (⟨"DoorBenchModel", "orders", "(III)I"⟩, "", ""), [8065, 8066, 8067, 1003]),
  ((12, 377), (1, 4, [(12, 275)]), (⟨"DoorBenchModel", "tryOrders", "(IIII)V"⟩, "", ""), [8069, 8071, 104, 1003]),
  ((13, 138), (1, 3, [(12, 276)]), (⟨"DoorBenchModel", "act", "(III)I"⟩, "", ""), [8073, 8074, 8075, 1003]),
  ((12, 393), (1, 2, [(12, 277)]), (⟨"DoorBenchModel", "counts", "(II)I"⟩, "", ""), [8077, 8079, 105, 1003]),
  ((12, 384), (1, 1, [(12, 278)]), (⟨"DoorBenchModel", "ranBody", "(I)V"⟩, "", ""), [8081, 8083, 106, 1003]),
  ((12, 396), (1, 2, [(12, 280)]), (⟨"DoorBenchModel", "weighs", "(II)I"⟩, "", ""), [8088, 8090, 107, 1003]),
  ((12, 399), (1, 2, [(12, 281)]), (⟨"DoorBenchModel", "binds", "(II)I"⟩, "", ""), [8092, 8094, 108, 1003]),
  ((12, 402), (1, 2, [(12, 282)]), (⟨"DoorBenchModel", "tells", "(II)I"⟩, "", ""), [8096, 8098, 109, 1003]),
  ((13, 142), (1, 1, [(12, 283)]), (⟨"DoorBenchModel", "trace", "(I)I"⟩, "", ""), [8100, 8101, 8102, 1003]),
  ((13, 146), (1, 2, [(12, 284)]), (⟨"DoorBenchModel", "keep", "(II)I"⟩, "", ""), [8104, 8105, 8106, 1003]),
  ((13, 150), (1, 3, [(12, 285)]), (⟨"DoorBenchModel", "row", "(III)I"⟩, "", ""), [8108, 8109, 8110, 1003]),
  ((13, 157), (1, 3, [(12, 286)]), (⟨"DoorBenchModel", "put", "(IIJ)I"⟩, "", ""), [8112, 8113, 8114, 1003]),
  ((12, 405), (1, 2, [(12, 287)]), (⟨"DoorBenchModel", "refusal", "(II)I"⟩, "", ""), [8116, 8118, 110, 1003]),
  ((13, 162), (1, 2, [(12, 289)]), (⟨"DoorBenchModel", "element", "(II)J"⟩, "", ""), [8123, 8124, 8125, 1003]),
  ((13, 166), (1, 5, [(12, 290)]), (⟨"DoorBenchModel", "shift", "(IIIII)I"⟩, "", ""), [8128, 8129, 8130, 1003]),
  ((13, 170), (1, 2, [(12, 291)]), (⟨"DoorBenchModel", "taken", "(II)I"⟩, "", ""), [8132, 8133, 8134, 1003]),
  ((13, 174), (1, 1, [(12, 292)]), (⟨"DoorBenchModel", "count", "(I)I"⟩, "", ""), [8136, 8137, 8138, 1003])]
def z_cV : List ((Nat × Nat) × (Nat × Nat × List (Nat × Nat)) × (MethodName × String × String) × List Nat) := z_cV0 ++ (z_cV1 ++ (z_cV2 ++ (z_cV3 ++ (z_cV4))))
def z_cI0 : List ((Nat × Nat) × (Nat × Nat × List (Nat × Nat)) × (MethodName × String × String) × List Nat) := [((13, 9), (3, 0, [(0, 1)]), (⟨"DoorBench", "<init>", "()V"⟩, "", ""), [1022, 1023, 1001]),
  ((0, 1), (7, 0, []), (⟨"java/lang/Object", "<init>", "()V"⟩, "", ""), [1025, 1026]),
  ((0, 9), (6, 0, [(0, 2)]), (⟨"DoorBench$Tape", "<init>", "()V"⟩, "", "DoorBench"), [1031, 1002]),
  ((1, 3), (7, 0, []), (⟨"java/lang/Object", "<init>", "()V"⟩, "", ""), [1033, 1026]),
  ((1, 107), (3, 5, [(0, 23)]), (⟨"DoorBench$Agenda", "<init>", "(IIII[J)V"⟩, "", ""), [1200, 1201, 1005]),
  ((2, 3), (7, 0, []), (⟨"java/lang/Object", "<init>", "()V"⟩, "", ""), [1203, 1026]),
  ((0, 82), (3, 1, [(0, 33)]), (⟨"DoorBench$Bench", "<init>", "(LDoorBench$Agenda;)V"⟩, "", ""), [2065, 2066, 1009]),
  ((3, 3), (7, 0, []), (⟨"java/lang/Object", "<init>", "()V"⟩, "", ""), [2068, 1026]),
  ((0, 197), (3, 3, [(0, 75)]), (⟨"DoorBench$Heads", "<init>", "(II[I)V"⟩, "", ""), [3066, 3067, 1012]),
  ((5, 1), (3, 5, [(0, 76)]), (⟨"DoorBench$Way", "<init>", "(II[III)V"⟩, "", ""), [3069, 3070, 1011]),
  ((4, 3), (7, 0, []), (⟨"java/lang/Object", "<init>", "()V"⟩, "", ""), [3072, 1026]),
  ((0, 202), (3, 3, [(0, 77)]), (⟨"DoorBench$Premises", "<init>", "(II[I)V"⟩, "", ""), [3100, 3101, 1013]),
  ((6, 1), (3, 3, [(0, 75)]), (⟨"DoorBench$Heads", "<init>", "(II[I)V"⟩, "", ""), [3103, 3067, 1012]),
  ((0, 205), (3, 3, [(0, 78)]), (⟨"DoorBench$Ends", "<init>", "(II[I)V"⟩, "", ""), [3112, 3113, 1014]),
  ((7, 1), (3, 3, [(0, 75)]), (⟨"DoorBench$Heads", "<init>", "(II[I)V"⟩, "", ""), [3115, 3067, 1012]),
  ((0, 208), (3, 3, [(0, 79)]), (⟨"DoorBench$Near", "<init>", "(II[I)V"⟩, "", ""), [3124, 3125, 1015]),
  ((8, 1), (3, 5, [(0, 76)]), (⟨"DoorBench$Way", "<init>", "(II[III)V"⟩, "", ""), [3127, 3070, 1011]),
  ((0, 211), (3, 5, [(0, 80)]), (⟨"DoorBench$Turns", "<init>", "(II[III)V"⟩, "", ""), [3136, 3137, 1016]),
  ((9, 1), (3, 5, [(0, 76)]), (⟨"DoorBench$Way", "<init>", "(II[III)V"⟩, "", ""), [3139, 3070, 1011]),
  ((0, 216), (3, 5, [(0, 81)]), (⟨"DoorBench$Chair", "<init>", "(II[III)V"⟩, "", ""), [3148, 3149, 1017]),
  ((10, 1), (3, 5, [(0, 80)]), (⟨"DoorBench$Turns", "<init>", "(II[III)V"⟩, "", ""), [3151, 3137, 1016]),
  ((0, 219), (3, 5, [(0, 82)]), (⟨"DoorBench$Leader", "<init>", "(II[III)V"⟩, "", ""), [3160, 3161, 1018]),
  ((11, 3), (3, 5, [(0, 76)]), (⟨"DoorBench$Way", "<init>", "(II[III)V"⟩, "", ""), [3163, 3070, 1011]),
  ((0, 220), (3, 5, [(0, 76)]), (⟨"DoorBench$Way", "<init>", "(II[III)V"⟩, "", ""), [3171, 3070, 1011]),
  ((5, 19), (4, 1, [(0, 163)]), (⟨"DoorBench$Way", "counts", "(I)I"⟩, "DoorBench$Way", ""), [5102, 5089, 3097, 5087, 1011]),
  ((8, 34), (4, 1, [(0, 163)]), (⟨"DoorBench$Way", "counts", "(I)I"⟩, "DoorBench$Way", ""), [5111, 5089, 3133, 5087, 1011]),
  ((10, 46), (4, 1, [(0, 165)]), (⟨"DoorBench$Turns", "weighs", "(I)I"⟩, "DoorBench$Turns", ""), [5126, 8152, 3157, 5127, 1016]),
  ((9, 30), (4, 1, [(0, 167)]), (⟨"DoorBench$Way", "weighs", "(I)I"⟩, "DoorBench$Way", ""), [5133, 5119, 3145, 5117, 1011]),
  ((6, 36), (9, 1, [(0, 167)]), (⟨"DoorBench$Heads", "weighs", "(I)I"⟩, "DoorBench$Way", ""), [5144, 5145, 3109, 3097, 5117, 1011]),
  ((10, 42), (9, 1, [(0, 170)]), (⟨"DoorBench$Turns", "binds", "(I)I"⟩, "DoorBench$Way", ""), [5161, 5162, 3157, 3145, 5155, 1011]),
  ((7, 39), (9, 1, [(0, 170)]), (⟨"DoorBench$Heads", "binds", "(I)I"⟩, "DoorBench$Way", ""), [5170, 5171, 3121, 3097, 5155, 1011]),
  ((9, 33), (4, 1, [(0, 173)]), (⟨"DoorBench$Way", "tells", "(I)I"⟩, "DoorBench$Way", ""), [5185, 5181, 3145, 5179, 1011]),
  ((11, 48), (4, 1, [(0, 173)]), (⟨"DoorBench$Way", "tells", "(I)I"⟩, "DoorBench$Way", ""), [5194, 5181, 3169, 5179, 1011]),
  ((11, 51), (4, 1, [(0, 170)]), (⟨"DoorBench$Way", "binds", "(I)I"⟩, "DoorBench$Way", ""), [5195, 5157, 3169, 5155, 1011]),
  ((13, 12), (3, 0, [(0, 187)]), (⟨"DoorBenchModel", "<init>", "()V"⟩, "", ""), [6029, 6030, 1003]),
  ((12, 1), (7, 0, []), (⟨"java/lang/Object", "<init>", "()V"⟩, "", ""), [6032, 1026])]
def z_cI : List ((Nat × Nat) × (Nat × Nat × List (Nat × Nat)) × (MethodName × String × String) × List Nat) := z_cI0
/-- words that a warmer machine doesn't keep by the general law: carried from call to call -/
def z_xw : List Jvm.Cond := [.methodLinkNest "DoorBench" 9 ⟨"DoorBench$Tape", "<init>", "()V"⟩ "DoorBench", .fieldLinkNest "DoorBench$Tape" 99 "DoorBench" "YES_SETS" "[J" "DoorBench", .fieldLinkNest "DoorBench$Agenda" 97 "DoorBench" "YES_SETS" "[J" "DoorBench", .methodLinkNest "DoorBench$Bench" 136 ⟨"DoorBench", "choose", "(II)I"⟩ "DoorBench", .methodLinkNest "DoorBench$Way" 125 ⟨"DoorBench", "choose", "(II)I"⟩ "DoorBench", .fieldLinkNest "DoorBench$Way" 28 "DoorBench" "KIND_ABOVE" "[I" "DoorBench", .castable "DoorBench$Heads" "DoorBench$Way", .castable "DoorBench$Premises" "DoorBench$Way", .castable "DoorBench$Ends" "DoorBench$Way", .castable "DoorBench$Near" "DoorBench$Way", .castable "DoorBench$Turns" "DoorBench$Way", .castable "DoorBench$Chair" "DoorBench$Way", .castable "DoorBench$Leader" "DoorBench$Way"]
