theorem zd0_27 : decode (z_b 0) 27 = .ok (.aload_n 0, 1) := by decide +kernel
theorem zd0_28 : decode (z_b 0) 28 = .ok (.iload_n 3, 1) := by decide +kernel
theorem zd0_29 : decode (z_b 0) 29 = .ok (.iaload, 1) := by decide +kernel
theorem zd0_30 : decode (z_b 0) 30 = .ok (.bipush 63, 2) := by decide +kernel
theorem zd0_32 : decode (z_b 0) 32 = .ok (.iand, 1) := by decide +kernel
theorem zd0_33 : decode (z_b 0) 33 = .ok (.tableswitch 1741 0 37 #[167, 200, 213, 246, 279, 312, 355, 408, 451, 504, 557, 610, 633, 676, 719, 752, 785, 828, 861, 904, 937, 990, 1053, 1106, 1149, 1192, 1245, 1288, 1331, 1374, 1417, 1440, 1473, 1516, 1589, 1622, 1685, 1718], 167) := by decide +kernel
/-! one call of each kind, told by its two methods -/
def z_P0 (I : zH → Prop) : Prop := ∀ (x1 : Int32) (x2 : Int32) (M : zH), I M → z_ev 2046 3 0 (z_ent [.ref 4, .int x1, .int x2] (z_ml 3)) [] M fun v M1 => (∃ y, v = some (.int y)) ∧ z_ev 2046 188 0 (z_ent [.ref 19, .int x1, .int x2] (z_ml 188)) [] M1 fun v2 M2 => (∃ y, v2 = some (.int y)) ∧ True ∧ I M2 ∧ M2.length ≤ M.length + 1171 ∧ z_szr M2 ≤ z_szr M + 14000
def z_P1 (I : zH → Prop) : Prop := ∀ (M : zH), I M → z_ev 2046 5 0 (z_ent [.ref 4] (z_ml 5)) [] M fun v M1 => (∃ y, v = some (.int y)) ∧ z_ev 2046 190 0 (z_ent [.ref 19] (z_ml 190)) [] M1 fun v2 M2 => (∃ y, v2 = some (.int y)) ∧ True ∧ I M2 ∧ M2.length ≤ M.length + 1171 ∧ z_szr M2 ≤ z_szr M + 14000
def z_P2 (I : zH → Prop) : Prop := ∀ (x1 : Int32) (x2 : Int32) (M : zH), I M → z_ev 2046 34 0 (z_ent [.ref 4, .int x1, .int x2] (z_ml 34)) [] M fun v M1 => (∃ y, v = some (.int y)) ∧ z_ev 2046 208 0 (z_ent [.ref 19, .int x1, .int x2] (z_ml 208)) [] M1 fun v2 M2 => (∃ y, v2 = some (.int y)) ∧ True ∧ I M2 ∧ M2.length ≤ M.length + 1171 ∧ z_szr M2 ≤ z_szr M + 14000
def z_P3 (I : zH → Prop) : Prop := ∀ (x1 : Int32) (x2 : Int32) (M : zH), I M → z_ev 2046 36 0 (z_ent [.ref 4, .int x1, .int x2] (z_ml 36)) [] M fun v M1 => (∃ y, v = some (.int y)) ∧ z_ev 2046 210 0 (z_ent [.ref 19, .int x1, .int x2] (z_ml 210)) [] M1 fun v2 M2 => (∃ y, v2 = some (.int y)) ∧ True ∧ I M2 ∧ M2.length ≤ M.length + 1171 ∧ z_szr M2 ≤ z_szr M + 14000
def z_P4 (I : zH → Prop) : Prop := ∀ (x1 : Int32) (x2 : Int32) (M : zH), I M → z_ev 2046 38 0 (z_ent [.ref 4, .int x1, .int x2] (z_ml 38)) [] M fun v M1 => (∃ y, v = some (.int y)) ∧ z_ev 2046 211 0 (z_ent [.ref 19, .int x1, .int x2] (z_ml 211)) [] M1 fun v2 M2 => (∃ y, v2 = some (.int y)) ∧ True ∧ I M2 ∧ M2.length ≤ M.length + 1171 ∧ z_szr M2 ≤ z_szr M + 14000
def z_P5 (I : zH → Prop) : Prop := ∀ (x1 : Int32) (x2 : Int32) (x3 : Int32) (M : zH), I M → z_ev 2046 42 0 (z_ent [.ref 4, .int x1, .int x2, .int x3] (z_ml 42)) [] M fun v M1 => (∃ y, v = some (.int y)) ∧ z_ev 2046 213 0 (z_ent [.ref 19, .int x1, .int x2, .int x3] (z_ml 213)) [] M1 fun v2 M2 => (∃ y, v2 = some (.int y)) ∧ True ∧ I M2 ∧ M2.length ≤ M.length + 1171 ∧ z_szr M2 ≤ z_szr M + 14000
def z_P6 (I : zH → Prop) : Prop := ∀ (x1 : Int32) (x2 : Int32) (x3 : Int32) (x4 : Int32) (M : zH), I M → z_ev 2046 47 0 (z_ent [.ref 4, .int x1, .int x2, .int x3, .int x4] (z_ml 47)) [] M fun v M1 => (∃ y, v = some (.int y)) ∧ z_ev 2046 217 0 (z_ent [.ref 19, .int x1, .int x2, .int x3, .int x4] (z_ml 217)) [] M1 fun v2 M2 => (∃ y, v2 = some (.int y)) ∧ True ∧ I M2 ∧ M2.length ≤ M.length + 1171 ∧ z_szr M2 ≤ z_szr M + 14000
def z_P7 (I : zH → Prop) : Prop := ∀ (x1 : Int32) (x2 : Int32) (x3 : Int32) (M : zH), I M → z_ev 2046 50 0 (z_ent [.ref 4, .int x1, .int x2, .int x3] (z_ml 50)) [] M fun v M1 => (∃ y, v = some (.int y)) ∧ z_ev 2046 220 0 (z_ent [.ref 19, .int x1, .int x2, .int x3] (z_ml 220)) [] M1 fun v2 M2 => (∃ y, v2 = some (.int y)) ∧ True ∧ I M2 ∧ M2.length ≤ M.length + 1171 ∧ z_szr M2 ≤ z_szr M + 14000
def z_P8 (I : zH → Prop) : Prop := ∀ (x1 : Int32) (x2 : Int32) (x3 : Int32) (x4 : Int32) (M : zH), I M → z_ev 2046 52 0 (z_ent [.ref 4, .int x1, .int x2, .int x3, .int x4] (z_ml 52)) [] M fun v M1 => (∃ y, v = some (.int y)) ∧ z_ev 2046 221 0 (z_ent [.ref 19, .int x1, .int x2, .int x3, .int x4] (z_ml 221)) [] M1 fun v2 M2 => (∃ y, v2 = some (.int y)) ∧ True ∧ I M2 ∧ M2.length ≤ M.length + 1171 ∧ z_szr M2 ≤ z_szr M + 14000
def z_P9 (I : zH → Prop) : Prop := ∀ (x1 : Int32) (x2 : Int32) (x3 : Int32) (x4 : Int32) (M : zH), I M → z_ev 2046 55 0 (z_ent [.ref 4, .int x1, .int x2, .int x3, .int x4] (z_ml 55)) [] M fun v M1 => (∃ y, v = some (.int y)) ∧ z_ev 2046 222 0 (z_ent [.ref 19, .int x1, .int x2, .int x3, .int x4] (z_ml 222)) [] M1 fun v2 M2 => (∃ y, v2 = some (.int y)) ∧ True ∧ I M2 ∧ M2.length ≤ M.length + 1171 ∧ z_szr M2 ≤ z_szr M + 14000
def z_P10 (I : zH → Prop) : Prop := ∀ (x1 : Int32) (x2 : Int32) (x3 : Int32) (x4 : Int32) (M : zH), I M → z_ev 2046 57 0 (z_ent [.ref 4, .int x1, .int x2, .int x3, .int x4] (z_ml 57)) [] M fun v M1 => (∃ y, v = some (.int y)) ∧ z_ev 2046 224 0 (z_ent [.ref 19, .int x1, .int x2, .int x3, .int x4] (z_ml 224)) [] M1 fun v2 M2 => (∃ y, v2 = some (.int y)) ∧ True ∧ I M2 ∧ M2.length ≤ M.length + 1171 ∧ z_szr M2 ≤ z_szr M + 14000
def z_P11 (I : zH → Prop) : Prop := ∀ (x1 : Int32) (M : zH), I M → z_ev 2046 60 0 (z_ent [.ref 4, .int x1] (z_ml 60)) [] M fun v M1 => (∃ y, v = some (.int y)) ∧ z_ev 2046 226 0 (z_ent [.ref 19, .int x1] (z_ml 226)) [] M1 fun v2 M2 => (∃ y, v2 = some (.int y)) ∧ True ∧ I M2 ∧ M2.length ≤ M.length + 1171 ∧ z_szr M2 ≤ z_szr M + 14000
def z_P12 (I : zH → Prop) : Prop := ∀ (x1 : Int32) (x2 : Int32) (x3 : Int32) (M : zH), I M → z_ev 2046 62 0 (z_ent [.ref 4, .int x1, .int x2, .int x3] (z_ml 62)) [] M fun v M1 => (∃ y, v = some (.int y)) ∧ z_ev 2046 227 0 (z_ent [.ref 19, .int x1, .int x2, .int x3] (z_ml 227)) [] M1 fun v2 M2 => (∃ y, v2 = some (.int y)) ∧ True ∧ I M2 ∧ M2.length ≤ M.length + 1171 ∧ z_szr M2 ≤ z_szr M + 14000
def z_P13 (I : zH → Prop) : Prop := ∀ (x1 : Int32) (x2 : Int32) (x3 : Int32) (M : zH), I M → z_ev 2046 63 0 (z_ent [.ref 4, .int x1, .int x2, .int x3] (z_ml 63)) [] M fun v M1 => (∃ y, v = some (.int y)) ∧ z_ev 2046 228 0 (z_ent [.ref 19, .int x1, .int x2, .int x3] (z_ml 228)) [] M1 fun v2 M2 => (∃ y, v2 = some (.int y)) ∧ True ∧ I M2 ∧ M2.length ≤ M.length + 1171 ∧ z_szr M2 ≤ z_szr M + 14000
def z_P14 (I : zH → Prop) : Prop := ∀ (x1 : Int32) (x2 : Int32) (M : zH), I M → z_ev 2046 66 0 (z_ent [.ref 4, .int x1, .int x2] (z_ml 66)) [] M fun v M1 => (∃ y, v = some (.int y)) ∧ z_ev 2046 231 0 (z_ent [.ref 19, .int x1, .int x2] (z_ml 231)) [] M1 fun v2 M2 => (∃ y, v2 = some (.int y)) ∧ True ∧ I M2 ∧ M2.length ≤ M.length + 1171 ∧ z_szr M2 ≤ z_szr M + 14000
def z_P15 (I : zH → Prop) : Prop := ∀ (x1 : Int32) (x2 : Int32) (M : zH), I M → z_ev 2046 68 0 (z_ent [.ref 4, .int x1, .int x2] (z_ml 68)) [] M fun v M1 => (∃ y, v = some (.int y)) ∧ z_ev 2046 233 0 (z_ent [.ref 19, .int x1, .int x2] (z_ml 233)) [] M1 fun v2 M2 => (∃ y, v2 = some (.int y)) ∧ True ∧ I M2 ∧ M2.length ≤ M.length + 1171 ∧ z_szr M2 ≤ z_szr M + 14000
def z_P16 (I : zH → Prop) : Prop := ∀ (x1 : Int32) (x2 : Int32) (x3 : Int32) (M : zH), I M → z_ev 2046 73 0 (z_ent [.ref 4, .int x1, .int x2, .int x3] (z_ml 73)) [] M fun v M1 => (∃ y, v = some (.int y)) ∧ z_ev 2046 235 0 (z_ent [.ref 19, .int x1, .int x2, .int x3] (z_ml 235)) [] M1 fun v2 M2 => (∃ y, v2 = some (.int y)) ∧ True ∧ I M2 ∧ M2.length ≤ M.length + 1171 ∧ z_szr M2 ≤ z_szr M + 14000
def z_P17 (I : zH → Prop) : Prop := ∀ (x1 : Int32) (x2 : Int32) (M : zH), I M → z_ev 2046 83 0 (z_ent [.ref 4, .int x1, .int x2] (z_ml 83)) [] M fun v M1 => (∃ y, v = some (.int y)) ∧ z_ev 2046 236 0 (z_ent [.ref 19, .int x1, .int x2] (z_ml 236)) [] M1 fun v2 M2 => (∃ y, v2 = some (.int y)) ∧ True ∧ I M2 ∧ M2.length ≤ M.length + 1171 ∧ z_szr M2 ≤ z_szr M + 14000
def z_P18 (I : zH → Prop) : Prop := ∀ (x1 : Int32) (x2 : Int32) (x3 : Int32) (M : zH), I M → z_ev 2046 85 0 (z_ent [.ref 4, .int x1, .int x2, .int x3] (z_ml 85)) [] M fun v M1 => (∃ y, v = some (.int y)) ∧ z_ev 2046 238 0 (z_ent [.ref 19, .int x1, .int x2, .int x3] (z_ml 238)) [] M1 fun v2 M2 => (∃ y, v2 = some (.int y)) ∧ True ∧ I M2 ∧ M2.length ≤ M.length + 1171 ∧ z_szr M2 ≤ z_szr M + 14000
def z_P19 (I : zH → Prop) : Prop := ∀ (x1 : Int32) (x2 : Int32) (M : zH), I M → z_ev 2046 102 0 (z_ent [.ref 4, .int x1, .int x2] (z_ml 102)) [] M fun v M1 => (∃ y, v = some (.int y)) ∧ z_ev 2046 250 0 (z_ent [.ref 19, .int x1, .int x2] (z_ml 250)) [] M1 fun v2 M2 => (∃ y, v2 = some (.int y)) ∧ True ∧ I M2 ∧ M2.length ≤ M.length + 1171 ∧ z_szr M2 ≤ z_szr M + 14000
def z_P20 (I : zH → Prop) : Prop := ∀ (x1 : Int32) (x2 : Int32) (x3 : Int32) (x4 : Int32) (M : zH), I M → z_ev 2046 106 0 (z_ent [.ref 4, .int x1, .int x2, .int x3, .int x4] (z_ml 106)) [] M fun v M1 => (∃ y, v = some (.int y)) ∧ z_ev 2046 256 0 (z_ent [.ref 19, .int x1, .int x2, .int x3, .int x4] (z_ml 256)) [] M1 fun v2 M2 => (∃ y, v2 = some (.int y)) ∧ True ∧ I M2 ∧ M2.length ≤ M.length + 1171 ∧ z_szr M2 ≤ z_szr M + 14000
def z_P21 (I : zH → Prop) : Prop := ∀ (x1 : Int32) (x2 : Int32) (x3 : Int32) (x4 : Int32) (x5 : Int32) (M : zH), I M → z_ev 2046 112 0 (z_ent [.ref 4, .int x1, .int x2, .int x3, .int x4, .int x5] (z_ml 112)) [] M fun v M1 => (∃ y, v = some (.int y)) ∧ z_ev 2046 258 0 (z_ent [.ref 19, .int x1, .int x2, .int x3, .int x4, .int x5] (z_ml 258)) [] M1 fun v2 M2 => (∃ y, v2 = some (.int y)) ∧ True ∧ I M2 ∧ M2.length ≤ M.length + 1171 ∧ z_szr M2 ≤ z_szr M + 14000
def z_P22 (I : zH → Prop) : Prop := ∀ (x1 : Int32) (x2 : Int32) (x3 : Int32) (x4 : Int32) (M : zH), I M → z_ev 2046 114 0 (z_ent [.ref 4, .int x1, .int x2, .int x3, .int x4] (z_ml 114)) [] M fun v M1 => (∃ y, v = some (.int y)) ∧ z_ev 2046 259 0 (z_ent [.ref 19, .int x1, .int x2, .int x3, .int x4] (z_ml 259)) [] M1 fun v2 M2 => (∃ y, v2 = some (.int y)) ∧ True ∧ I M2 ∧ M2.length ≤ M.length + 1171 ∧ z_szr M2 ≤ z_szr M + 14000
def z_P23 (I : zH → Prop) : Prop := ∀ (x1 : Int32) (x2 : Int32) (x3 : Int32) (M : zH), I M → z_ev 2046 116 0 (z_ent [.ref 4, .int x1, .int x2, .int x3] (z_ml 116)) [] M fun v M1 => (∃ y, v = some (.int y)) ∧ z_ev 2046 260 0 (z_ent [.ref 19, .int x1, .int x2, .int x3] (z_ml 260)) [] M1 fun v2 M2 => (∃ y, v2 = some (.int y)) ∧ True ∧ I M2 ∧ M2.length ≤ M.length + 1171 ∧ z_szr M2 ≤ z_szr M + 14000
def z_P24 (I : zH → Prop) : Prop := ∀ (x1 : Int32) (x2 : Int32) (x3 : Int32) (M : zH), I M → z_ev 2046 119 0 (z_ent [.ref 4, .int x1, .int x2, .int x3] (z_ml 119)) [] M fun v M1 => (∃ y, v = some (.int y)) ∧ z_ev 2046 263 0 (z_ent [.ref 19, .int x1, .int x2, .int x3] (z_ml 263)) [] M1 fun v2 M2 => (∃ y, v2 = some (.int y)) ∧ True ∧ I M2 ∧ M2.length ≤ M.length + 1171 ∧ z_szr M2 ≤ z_szr M + 14000
def z_P25 (I : zH → Prop) : Prop := ∀ (x1 : Int32) (x2 : Int32) (x3 : Int32) (x4 : Int32) (M : zH), I M → z_ev 2046 129 0 (z_ent [.ref 4, .int x1, .int x2, .int x3, .int x4] (z_ml 129)) [] M fun v M1 => (∃ y, v = some (.int y)) ∧ z_ev 2046 264 0 (z_ent [.ref 19, .int x1, .int x2, .int x3, .int x4] (z_ml 264)) [] M1 fun v2 M2 => (∃ y, v2 = some (.int y)) ∧ True ∧ I M2 ∧ M2.length ≤ M.length + 1171 ∧ z_szr M2 ≤ z_szr M + 14000
def z_P26 (I : zH → Prop) : Prop := ∀ (x1 : Int32) (x2 : Int32) (x3 : Int32) (M : zH), I M → z_ev 2046 144 0 (z_ent [.ref 4, .int x1, .int x2, .int x3] (z_ml 144)) [] M fun v M1 => (∃ y, v = some (.int y)) ∧ z_ev 2046 271 0 (z_ent [.ref 19, .int x1, .int x2, .int x3] (z_ml 271)) [] M1 fun v2 M2 => (∃ y, v2 = some (.int y)) ∧ True ∧ I M2 ∧ M2.length ≤ M.length + 1171 ∧ z_szr M2 ≤ z_szr M + 14000
def z_P27 (I : zH → Prop) : Prop := ∀ (x1 : Int32) (x2 : Int32) (x3 : Int32) (M : zH), I M → z_ev 2046 146 0 (z_ent [.ref 4, .int x1, .int x2, .int x3] (z_ml 146)) [] M fun v M1 => (∃ y, v = some (.int y)) ∧ z_ev 2046 272 0 (z_ent [.ref 19, .int x1, .int x2, .int x3] (z_ml 272)) [] M1 fun v2 M2 => (∃ y, v2 = some (.int y)) ∧ True ∧ I M2 ∧ M2.length ≤ M.length + 1171 ∧ z_szr M2 ≤ z_szr M + 14000
def z_P28 (I : zH → Prop) : Prop := ∀ (x1 : Int32) (x2 : Int32) (x3 : Int32) (M : zH), I M → z_ev 2046 154 0 (z_ent [.ref 4, .int x1, .int x2, .int x3] (z_ml 154)) [] M fun v M1 => (∃ y, v = some (.int y)) ∧ z_ev 2046 274 0 (z_ent [.ref 19, .int x1, .int x2, .int x3] (z_ml 274)) [] M1 fun v2 M2 => (∃ y, v2 = some (.int y)) ∧ v = v2 ∧ I M2 ∧ M2.length ≤ M.length + 1171 ∧ z_szr M2 ≤ z_szr M + 14000
def z_P29 (I : zH → Prop) : Prop := ∀ (x1 : Int32) (x2 : Int32) (x3 : Int32) (M : zH), I M → z_ev 2046 159 0 (z_ent [.ref 4, .int x1, .int x2, .int x3] (z_ml 159)) [] M fun v M1 => (∃ y, v = some (.int y)) ∧ z_ev 2046 276 0 (z_ent [.ref 19, .int x1, .int x2, .int x3] (z_ml 276)) [] M1 fun v2 M2 => (∃ y, v2 = some (.int y)) ∧ True ∧ I M2 ∧ M2.length ≤ M.length + 1171 ∧ z_szr M2 ≤ z_szr M + 14000
def z_P30 (I : zH → Prop) : Prop := ∀ (x1 : Int32) (M : zH), I M → z_ev 2046 174 0 (z_ent [.ref 4, .int x1] (z_ml 174)) [] M fun v M1 => (∃ y, v = some (.int y)) ∧ z_ev 2046 283 0 (z_ent [.ref 19, .int x1] (z_ml 283)) [] M1 fun v2 M2 => (∃ y, v2 = some (.int y)) ∧ True ∧ I M2 ∧ M2.length ≤ M.length + 1171 ∧ z_szr M2 ≤ z_szr M + 14000
def z_P31 (I : zH → Prop) : Prop := ∀ (x1 : Int32) (x2 : Int32) (M : zH), I M → z_ev 2046 175 0 (z_ent [.ref 4, .int x1, .int x2] (z_ml 175)) [] M fun v M1 => (∃ y, v = some (.int y)) ∧ z_ev 2046 284 0 (z_ent [.ref 19, .int x1, .int x2] (z_ml 284)) [] M1 fun v2 M2 => (∃ y, v2 = some (.int y)) ∧ True ∧ I M2 ∧ M2.length ≤ M.length + 1171 ∧ z_szr M2 ≤ z_szr M + 14000
def z_P32 (I : zH → Prop) : Prop := ∀ (x1 : Int32) (x2 : Int32) (x3 : Int32) (M : zH), I M → z_ev 2046 176 0 (z_ent [.ref 4, .int x1, .int x2, .int x3] (z_ml 176)) [] M fun v M1 => (∃ y, v = some (.int y)) ∧ z_ev 2046 285 0 (z_ent [.ref 19, .int x1, .int x2, .int x3] (z_ml 285)) [] M1 fun v2 M2 => (∃ y, v2 = some (.int y)) ∧ True ∧ I M2 ∧ M2.length ≤ M.length + 1171 ∧ z_szr M2 ≤ z_szr M + 14000
def z_P33 (I : zH → Prop) : Prop := ∀ (x1 : Int32) (x2 : Int32) (x3 : Int64) (M : zH), I M → z_ev 2046 177 0 (z_ent [.ref 4, .int x1, .int x2, .long x3] (z_ml 177)) [] M fun v M1 => (∃ y, v = some (.int y)) ∧ z_ev 2046 286 0 (z_ent [.ref 19, .int x1, .int x2, .long x3] (z_ml 286)) [] M1 fun v2 M2 => (∃ y, v2 = some (.int y)) ∧ True ∧ I M2 ∧ M2.length ≤ M.length + 1171 ∧ z_szr M2 ≤ z_szr M + 14000
def z_P34 (I : zH → Prop) : Prop := ∀ (x1 : Int32) (x2 : Int32) (M : zH), I M → z_ev 2046 180 0 (z_ent [.ref 4, .int x1, .int x2] (z_ml 180)) [] M fun v M1 => (∃ y, v = some (.long y)) ∧ z_ev 2046 289 0 (z_ent [.ref 19, .int x1, .int x2] (z_ml 289)) [] M1 fun v2 M2 => (∃ y, v2 = some (.long y)) ∧ True ∧ I M2 ∧ M2.length ≤ M.length + 1171 ∧ z_szr M2 ≤ z_szr M + 14000
def z_P35 (I : zH → Prop) : Prop := ∀ (x1 : Int32) (x2 : Int32) (x3 : Int32) (x4 : Int32) (x5 : Int32) (M : zH), I M → z_ev 2046 181 0 (z_ent [.ref 4, .int x1, .int x2, .int x3, .int x4, .int x5] (z_ml 181)) [] M fun v M1 => (∃ y, v = some (.int y)) ∧ z_ev 2046 290 0 (z_ent [.ref 19, .int x1, .int x2, .int x3, .int x4, .int x5] (z_ml 290)) [] M1 fun v2 M2 => (∃ y, v2 = some (.int y)) ∧ True ∧ I M2 ∧ M2.length ≤ M.length + 1171 ∧ z_szr M2 ≤ z_szr M + 14000
def z_P36 (I : zH → Prop) : Prop := ∀ (x1 : Int32) (x2 : Int32) (M : zH), I M → z_ev 2046 183 0 (z_ent [.ref 4, .int x1, .int x2] (z_ml 183)) [] M fun v M1 => (∃ y, v = some (.int y)) ∧ z_ev 2046 291 0 (z_ent [.ref 19, .int x1, .int x2] (z_ml 291)) [] M1 fun v2 M2 => (∃ y, v2 = some (.int y)) ∧ True ∧ I M2 ∧ M2.length ≤ M.length + 1171 ∧ z_szr M2 ≤ z_szr M + 14000
def z_P37 (I : zH → Prop) : Prop := ∀ (x1 : Int32) (M : zH), I M → z_ev 2046 185 0 (z_ent [.ref 4, .int x1] (z_ml 185)) [] M fun v M1 => (∃ y, v = some (.int y)) ∧ z_ev 2046 292 0 (z_ent [.ref 19, .int x1] (z_ml 292)) [] M1 fun v2 M2 => (∃ y, v2 = some (.int y)) ∧ True ∧ I M2 ∧ M2.length ≤ M.length + 1171 ∧ z_szr M2 ≤ z_szr M + 14000
theorem z_gluE {I : zH → Prop} {L : Nat} {xs : Nat → Int32} {M : zH} {d j : Nat} {l1 : zL} {k : Nat} {l2 : zL} {A B : Option Value → Prop} {C : Option Value → Option Value → Prop} {Z : zH → Prop} {fs : List Value} (h0 : M[0]? = some (.inl (0, L, .inl xs))) (h19 : M[19]? = some (.inr (12, fs)))
    (h : z_ev d j 0 l1 [] M fun v M1 => A v ∧ z_ev d k 0 l2 [] M1 fun v2 M2 => B v2 ∧ C v v2 ∧ I M2 ∧ M2.length ≤ M.length + 1171 ∧ z_szr M2 ≤ z_szr M + 14000)
    (kk : ∀ M2, M2[0]? = some (.inl (0, L, .inl xs)) → I M2 → M2.length ≤ M.length + 1171 → z_szr M2 ≤ z_szr M + 14000 → Z M2) :
    z_ev d j 0 l1 [] M fun v M1 => A v ∧ M1[0]? = some (.inl (0, L, .inl xs)) ∧ (∃ fs1, M1[19]? = some (.inr (12, fs1))) ∧ z_ev d k 0 l2 [] M1 fun v2 M2 => B v2 ∧ C v v2 ∧ Z M2 := by
  refine h.grow.mono fun v M1 ⟨⟨a, b⟩, g, _⟩ => ?_
  obtain ⟨fs1, q1, _⟩ := g.ob h19
  refine ⟨a, g.ro (by decide) h0, ⟨fs1, q1⟩, b.grow.mono fun v2 M2 ⟨⟨b1, b2, b3, b4, b5⟩, g2, _⟩ => ?_⟩
  exact ⟨b1, b2, kk M2 (g2.ro (by decide) (g.ro (by decide) h0)) b3 b4 b5⟩
theorem z_step_of {I : zH → Prop} (h4 : ∀ M, I M → ∃ fs, M[4]? = some (.inr (0, fs))) (h19 : ∀ M, I M → ∃ fs, M[19]? = some (.inr (12, fs))) (H0 : z_P0 I) (H1 : z_P1 I) (H2 : z_P2 I) (H3 : z_P3 I) (H4 : z_P4 I) (H5 : z_P5 I) (H6 : z_P6 I) (H7 : z_P7 I) (H8 : z_P8 I) (H9 : z_P9 I) (H10 : z_P10 I) (H11 : z_P11 I) (H12 : z_P12 I) (H13 : z_P13 I) (H14 : z_P14 I) (H15 : z_P15 I) (H16 : z_P16 I) (H17 : z_P17 I) (H18 : z_P18 I) (H19 : z_P19 I) (H20 : z_P20 I) (H21 : z_P21 I) (H22 : z_P22 I) (H23 : z_P23 I) (H24 : z_P24 I) (H25 : z_P25 I) (H26 : z_P26 I) (H27 : z_P27 I) (H28 : z_P28 I) (H29 : z_P29 I) (H30 : z_P30 I) (H31 : z_P31 I) (H32 : z_P32 I) (H33 : z_P33 I) (H34 : z_P34 I) (H35 : z_P35 I) (H36 : z_P36 I) (H37 : z_P37 I) : z_stepOk I := by
  intro L xs i M K hi0 hi1 hL h0 hI kk
  obtain ⟨f4, q4⟩ := h4 M hI
  obtain ⟨f19, q19⟩ := h19 M hI
  refine z_e1 (pc1 := 28) (L1 := [some (.ref 0), some (.ref 4), some (.ref 19), some (.int i)]) (S1 := [.ref 0]) zd0_27 rfl rfl rfl ?_
  refine z_e1 (pc1 := 29) (L1 := [some (.ref 0), some (.ref 4), some (.ref 19), some (.int i)]) (S1 := [.int i, .ref 0]) zd0_28 rfl rfl rfl ?_
  refine z_eial (y := xs i.toNatClampNeg) zd0_29 h0 (z_inr (by omega) (by omega)) rfl ?_
  refine z_e1 (pc1 := 32) (L1 := [some (.ref 0), some (.ref 4), some (.ref 19), some (.int i)]) (S1 := [.int 63, .int (xs i.toNatClampNeg)]) zd0_30 rfl rfl rfl ?_
  refine z_e1 (pc1 := 33) (L1 := [some (.ref 0), some (.ref 4), some (.ref 19), some (.int i)]) (S1 := [.int (xs i.toNatClampNeg &&& 63)]) zd0_32 rfl rfl rfl ?_
  generalize (xs i.toNatClampNeg &&& 63 : Int32) = t
  by_cases e0 : t.toInt = 0
  · obtain rfl := z_sub (k := 0) e0 (by decide)
    refine z_e1 (pc1 := 200) (L1 := [some (.ref 0), some (.ref 4), some (.ref 19), some (.int i)]) (S1 := []) zd0_33 rfl rfl rfl ?_
    exact z_D0 hi0 hi1 hL h0 q4 (z_gluE h0 q19 (H0 _ _ M hI) kk)
  by_cases e1 : t.toInt = 1
  · obtain rfl := z_sub (k := 1) e1 (by decide)
    refine z_e1 (pc1 := 233) (L1 := [some (.ref 0), some (.ref 4), some (.ref 19), some (.int i)]) (S1 := []) zd0_33 rfl rfl rfl ?_
    exact z_D1 hi0 hi1 hL h0 q4 (z_gluE h0 q19 (H1 M hI) kk)
  by_cases e2 : t.toInt = 2
  · obtain rfl := z_sub (k := 2) e2 (by decide)
    refine z_e1 (pc1 := 246) (L1 := [some (.ref 0), some (.ref 4), some (.ref 19), some (.int i)]) (S1 := []) zd0_33 rfl rfl rfl ?_
    exact z_D2 hi0 hi1 hL h0 q4 (z_gluE h0 q19 (H2 _ _ M hI) kk)
  by_cases e3 : t.toInt = 3
  · obtain rfl := z_sub (k := 3) e3 (by decide)
    refine z_e1 (pc1 := 279) (L1 := [some (.ref 0), some (.ref 4), some (.ref 19), some (.int i)]) (S1 := []) zd0_33 rfl rfl rfl ?_
    exact z_D3 hi0 hi1 hL h0 q4 (z_gluE h0 q19 (H3 _ _ M hI) kk)
  by_cases e4 : t.toInt = 4
  · obtain rfl := z_sub (k := 4) e4 (by decide)
    refine z_e1 (pc1 := 312) (L1 := [some (.ref 0), some (.ref 4), some (.ref 19), some (.int i)]) (S1 := []) zd0_33 rfl rfl rfl ?_
    exact z_D4 hi0 hi1 hL h0 q4 (z_gluE h0 q19 (H4 _ _ M hI) kk)
  by_cases e5 : t.toInt = 5
  · obtain rfl := z_sub (k := 5) e5 (by decide)
    refine z_e1 (pc1 := 345) (L1 := [some (.ref 0), some (.ref 4), some (.ref 19), some (.int i)]) (S1 := []) zd0_33 rfl rfl rfl ?_
    exact z_D5 hi0 hi1 hL h0 q4 (z_gluE h0 q19 (H5 _ _ _ M hI) kk)
  by_cases e6 : t.toInt = 6
  · obtain rfl := z_sub (k := 6) e6 (by decide)
    refine z_e1 (pc1 := 388) (L1 := [some (.ref 0), some (.ref 4), some (.ref 19), some (.int i)]) (S1 := []) zd0_33 rfl rfl rfl ?_
    exact z_D6 hi0 hi1 hL h0 q4 (z_gluE h0 q19 (H6 _ _ _ _ M hI) kk)
  by_cases e7 : t.toInt = 7
  · obtain rfl := z_sub (k := 7) e7 (by decide)
    refine z_e1 (pc1 := 441) (L1 := [some (.ref 0), some (.ref 4), some (.ref 19), some (.int i)]) (S1 := []) zd0_33 rfl rfl rfl ?_
    exact z_D7 hi0 hi1 hL h0 q4 (z_gluE h0 q19 (H7 _ _ _ M hI) kk)
  by_cases e8 : t.toInt = 8
  · obtain rfl := z_sub (k := 8) e8 (by decide)
    refine z_e1 (pc1 := 484) (L1 := [some (.ref 0), some (.ref 4), some (.ref 19), some (.int i)]) (S1 := []) zd0_33 rfl rfl rfl ?_
    exact z_D8 hi0 hi1 hL h0 q4 (z_gluE h0 q19 (H8 _ _ _ _ M hI) kk)
  by_cases e9 : t.toInt = 9
  · obtain rfl := z_sub (k := 9) e9 (by decide)
    refine z_e1 (pc1 := 537) (L1 := [some (.ref 0), some (.ref 4), some (.ref 19), some (.int i)]) (S1 := []) zd0_33 rfl rfl rfl ?_
    exact z_D9 hi0 hi1 hL h0 q4 (z_gluE h0 q19 (H9 _ _ _ _ M hI) kk)
  by_cases e10 : t.toInt = 10
  · obtain rfl := z_sub (k := 10) e10 (by decide)
    refine z_e1 (pc1 := 590) (L1 := [some (.ref 0), some (.ref 4), some (.ref 19), some (.int i)]) (S1 := []) zd0_33 rfl rfl rfl ?_
    exact z_D10 hi0 hi1 hL h0 q4 (z_gluE h0 q19 (H10 _ _ _ _ M hI) kk)
  by_cases e11 : t.toInt = 11
  · obtain rfl := z_sub (k := 11) e11 (by decide)
    refine z_e1 (pc1 := 643) (L1 := [some (.ref 0), some (.ref 4), some (.ref 19), some (.int i)]) (S1 := []) zd0_33 rfl rfl rfl ?_
    exact z_D11 hi0 hi1 hL h0 q4 (z_gluE h0 q19 (H11 _ M hI) kk)
  by_cases e12 : t.toInt = 12
  · obtain rfl := z_sub (k := 12) e12 (by decide)
    refine z_e1 (pc1 := 666) (L1 := [some (.ref 0), some (.ref 4), some (.ref 19), some (.int i)]) (S1 := []) zd0_33 rfl rfl rfl ?_
    exact z_D12 hi0 hi1 hL h0 q4 (z_gluE h0 q19 (H12 _ _ _ M hI) kk)
  by_cases e13 : t.toInt = 13
  · obtain rfl := z_sub (k := 13) e13 (by decide)
    refine z_e1 (pc1 := 709) (L1 := [some (.ref 0), some (.ref 4), some (.ref 19), some (.int i)]) (S1 := []) zd0_33 rfl rfl rfl ?_
    exact z_D13 hi0 hi1 hL h0 q4 (z_gluE h0 q19 (H13 _ _ _ M hI) kk)
  by_cases e14 : t.toInt = 14
  · obtain rfl := z_sub (k := 14) e14 (by decide)
    refine z_e1 (pc1 := 752) (L1 := [some (.ref 0), some (.ref 4), some (.ref 19), some (.int i)]) (S1 := []) zd0_33 rfl rfl rfl ?_
    exact z_D14 hi0 hi1 hL h0 q4 (z_gluE h0 q19 (H14 _ _ M hI) kk)
  by_cases e15 : t.toInt = 15
  · obtain rfl := z_sub (k := 15) e15 (by decide)
    refine z_e1 (pc1 := 785) (L1 := [some (.ref 0), some (.ref 4), some (.ref 19), some (.int i)]) (S1 := []) zd0_33 rfl rfl rfl ?_
    exact z_D15 hi0 hi1 hL h0 q4 (z_gluE h0 q19 (H15 _ _ M hI) kk)
  by_cases e16 : t.toInt = 16
  · obtain rfl := z_sub (k := 16) e16 (by decide)
    refine z_e1 (pc1 := 818) (L1 := [some (.ref 0), some (.ref 4), some (.ref 19), some (.int i)]) (S1 := []) zd0_33 rfl rfl rfl ?_
    exact z_D16 hi0 hi1 hL h0 q4 (z_gluE h0 q19 (H16 _ _ _ M hI) kk)
  by_cases e17 : t.toInt = 17
  · obtain rfl := z_sub (k := 17) e17 (by decide)
    refine z_e1 (pc1 := 861) (L1 := [some (.ref 0), some (.ref 4), some (.ref 19), some (.int i)]) (S1 := []) zd0_33 rfl rfl rfl ?_
    exact z_D17 hi0 hi1 hL h0 q4 (z_gluE h0 q19 (H17 _ _ M hI) kk)
  by_cases e18 : t.toInt = 18
  · obtain rfl := z_sub (k := 18) e18 (by decide)
    refine z_e1 (pc1 := 894) (L1 := [some (.ref 0), some (.ref 4), some (.ref 19), some (.int i)]) (S1 := []) zd0_33 rfl rfl rfl ?_
    exact z_D18 hi0 hi1 hL h0 q4 (z_gluE h0 q19 (H18 _ _ _ M hI) kk)
  by_cases e19 : t.toInt = 19
  · obtain rfl := z_sub (k := 19) e19 (by decide)
    refine z_e1 (pc1 := 937) (L1 := [some (.ref 0), some (.ref 4), some (.ref 19), some (.int i)]) (S1 := []) zd0_33 rfl rfl rfl ?_
    exact z_D19 hi0 hi1 hL h0 q4 (z_gluE h0 q19 (H19 _ _ M hI) kk)
  by_cases e20 : t.toInt = 20
  · obtain rfl := z_sub (k := 20) e20 (by decide)
    refine z_e1 (pc1 := 970) (L1 := [some (.ref 0), some (.ref 4), some (.ref 19), some (.int i)]) (S1 := []) zd0_33 rfl rfl rfl ?_
    exact z_D20 hi0 hi1 hL h0 q4 (z_gluE h0 q19 (H20 _ _ _ _ M hI) kk)
  by_cases e21 : t.toInt = 21
  · obtain rfl := z_sub (k := 21) e21 (by decide)
    refine z_e1 (pc1 := 1023) (L1 := [some (.ref 0), some (.ref 4), some (.ref 19), some (.int i)]) (S1 := []) zd0_33 rfl rfl rfl ?_
    exact z_D21 hi0 hi1 hL h0 q4 (z_gluE h0 q19 (H21 _ _ _ _ _ M hI) kk)
  by_cases e22 : t.toInt = 22
  · obtain rfl := z_sub (k := 22) e22 (by decide)
    refine z_e1 (pc1 := 1086) (L1 := [some (.ref 0), some (.ref 4), some (.ref 19), some (.int i)]) (S1 := []) zd0_33 rfl rfl rfl ?_
    exact z_D22 hi0 hi1 hL h0 q4 (z_gluE h0 q19 (H22 _ _ _ _ M hI) kk)
  by_cases e23 : t.toInt = 23
  · obtain rfl := z_sub (k := 23) e23 (by decide)
    refine z_e1 (pc1 := 1139) (L1 := [some (.ref 0), some (.ref 4), some (.ref 19), some (.int i)]) (S1 := []) zd0_33 rfl rfl rfl ?_
    exact z_D23 hi0 hi1 hL h0 q4 (z_gluE h0 q19 (H23 _ _ _ M hI) kk)
  by_cases e24 : t.toInt = 24
  · obtain rfl := z_sub (k := 24) e24 (by decide)
    refine z_e1 (pc1 := 1182) (L1 := [some (.ref 0), some (.ref 4), some (.ref 19), some (.int i)]) (S1 := []) zd0_33 rfl rfl rfl ?_
    exact z_D24 hi0 hi1 hL h0 q4 (z_gluE h0 q19 (H24 _ _ _ M hI) kk)
  by_cases e25 : t.toInt = 25
  · obtain rfl := z_sub (k := 25) e25 (by decide)
    refine z_e1 (pc1 := 1225) (L1 := [some (.ref 0), some (.ref 4), some (.ref 19), some (.int i)]) (S1 := []) zd0_33 rfl rfl rfl ?_
    exact z_D25 hi0 hi1 hL h0 q4 (z_gluE h0 q19 (H25 _ _ _ _ M hI) kk)
  by_cases e26 : t.toInt = 26
  · obtain rfl := z_sub (k := 26) e26 (by decide)
    refine z_e1 (pc1 := 1278) (L1 := [some (.ref 0), some (.ref 4), some (.ref 19), some (.int i)]) (S1 := []) zd0_33 rfl rfl rfl ?_
    exact z_D26 hi0 hi1 hL h0 q4 (z_gluE h0 q19 (H26 _ _ _ M hI) kk)
  by_cases e27 : t.toInt = 27
  · obtain rfl := z_sub (k := 27) e27 (by decide)
    refine z_e1 (pc1 := 1321) (L1 := [some (.ref 0), some (.ref 4), some (.ref 19), some (.int i)]) (S1 := []) zd0_33 rfl rfl rfl ?_
    exact z_D27 hi0 hi1 hL h0 q4 (z_gluE h0 q19 (H27 _ _ _ M hI) kk)
  by_cases e28 : t.toInt = 28
  · obtain rfl := z_sub (k := 28) e28 (by decide)
    refine z_e1 (pc1 := 1364) (L1 := [some (.ref 0), some (.ref 4), some (.ref 19), some (.int i)]) (S1 := []) zd0_33 rfl rfl rfl ?_
    exact z_D28 hi0 hi1 hL h0 q4 (z_gluE h0 q19 (H28 _ _ _ M hI) kk)
  by_cases e29 : t.toInt = 29
  · obtain rfl := z_sub (k := 29) e29 (by decide)
    refine z_e1 (pc1 := 1407) (L1 := [some (.ref 0), some (.ref 4), some (.ref 19), some (.int i)]) (S1 := []) zd0_33 rfl rfl rfl ?_
    exact z_D29 hi0 hi1 hL h0 q4 (z_gluE h0 q19 (H29 _ _ _ M hI) kk)
  by_cases e30 : t.toInt = 30
  · obtain rfl := z_sub (k := 30) e30 (by decide)
    refine z_e1 (pc1 := 1450) (L1 := [some (.ref 0), some (.ref 4), some (.ref 19), some (.int i)]) (S1 := []) zd0_33 rfl rfl rfl ?_
    exact z_D30 hi0 hi1 hL h0 q4 (z_gluE h0 q19 (H30 _ M hI) kk)
  by_cases e31 : t.toInt = 31
  · obtain rfl := z_sub (k := 31) e31 (by decide)
    refine z_e1 (pc1 := 1473) (L1 := [some (.ref 0), some (.ref 4), some (.ref 19), some (.int i)]) (S1 := []) zd0_33 rfl rfl rfl ?_
    exact z_D31 hi0 hi1 hL h0 q4 (z_gluE h0 q19 (H31 _ _ M hI) kk)
  by_cases e32 : t.toInt = 32
  · obtain rfl := z_sub (k := 32) e32 (by decide)
    refine z_e1 (pc1 := 1506) (L1 := [some (.ref 0), some (.ref 4), some (.ref 19), some (.int i)]) (S1 := []) zd0_33 rfl rfl rfl ?_
    exact z_D32 hi0 hi1 hL h0 q4 (z_gluE h0 q19 (H32 _ _ _ M hI) kk)
  by_cases e33 : t.toInt = 33
  · obtain rfl := z_sub (k := 33) e33 (by decide)
    refine z_e1 (pc1 := 1549) (L1 := [some (.ref 0), some (.ref 4), some (.ref 19), some (.int i)]) (S1 := []) zd0_33 rfl rfl rfl ?_
    exact z_D33 hi0 hi1 hL h0 q4 (z_gluE h0 q19 (H33 _ _ _ M hI) kk)
  by_cases e34 : t.toInt = 34
  · obtain rfl := z_sub (k := 34) e34 (by decide)
    refine z_e1 (pc1 := 1622) (L1 := [some (.ref 0), some (.ref 4), some (.ref 19), some (.int i)]) (S1 := []) zd0_33 rfl rfl rfl ?_
    exact z_D34 hi0 hi1 hL h0 q4 (z_gluE h0 q19 (H34 _ _ M hI) kk)
  by_cases e35 : t.toInt = 35
  · obtain rfl := z_sub (k := 35) e35 (by decide)
    refine z_e1 (pc1 := 1655) (L1 := [some (.ref 0), some (.ref 4), some (.ref 19), some (.int i)]) (S1 := []) zd0_33 rfl rfl rfl ?_
    exact z_D35 hi0 hi1 hL h0 q4 (z_gluE h0 q19 (H35 _ _ _ _ _ M hI) kk)
  by_cases e36 : t.toInt = 36
  · obtain rfl := z_sub (k := 36) e36 (by decide)
    refine z_e1 (pc1 := 1718) (L1 := [some (.ref 0), some (.ref 4), some (.ref 19), some (.int i)]) (S1 := []) zd0_33 rfl rfl rfl ?_
    exact z_D36 hi0 hi1 hL h0 q4 (z_gluE h0 q19 (H36 _ _ M hI) kk)
  by_cases e37 : t.toInt = 37
  · obtain rfl := z_sub (k := 37) e37 (by decide)
    refine z_e1 (pc1 := 1751) (L1 := [some (.ref 0), some (.ref 4), some (.ref 19), some (.int i)]) (S1 := []) zd0_33 rfl rfl rfl ?_
    exact z_D37 hi0 hi1 hL h0 q4 (z_gluE h0 q19 (H37 _ M hI) kk)
  refine z_etd (t := 1774) zd0_33 rfl (by omega) ?_
  exact kk M h0 hI (by omega) (by omega)
