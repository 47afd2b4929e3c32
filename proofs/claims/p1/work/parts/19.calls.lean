/-! the calls, one by one, on fresh objects -/
theorem z_C2 {M : zH} {xs : Nat → Int32} {x1 x2 x3 x4 x5 : Int32} (h0 : M[0]? = some (.inl (0, 6, .inl xs))) (hN : M.length = 53) (hS : z_sz M ≤ 50000) (hB : z_fr M 4 53) (g1 : xs 1 = x1) (g2 : xs 2 = x2) (g3 : xs 3 = x3) (g4 : xs 4 = x4) (g5 : xs 5 = x5) : z_ev 2047 0 246 [some (.ref 0), some (.ref 4), some (.ref 19), some (.int 0)] [] M z_K1 := by
  have b4 := z_qO (hB 4 (by decide) (by decide))
  have b19 := z_qO (hB 19 (by decide) (by decide))
  refine z_e1 (pc1 := 247) (L1 := [some (.ref 0), some (.ref 4), some (.ref 19), some (.int 0)]) (S1 := [.ref 4]) zd0_246 rfl rfl rfl ?_
  refine z_e1 (pc1 := 248) (L1 := [some (.ref 0), some (.ref 4), some (.ref 19), some (.int 0)]) (S1 := [.ref 0, .ref 4]) zd0_247 rfl rfl rfl ?_
  refine z_e1 (pc1 := 249) (L1 := [some (.ref 0), some (.ref 4), some (.ref 19), some (.int 0)]) (S1 := [.int 0, .ref 0, .ref 4]) zd0_248 rfl rfl rfl ?_
  refine z_e1 (pc1 := 250) (L1 := [some (.ref 0), some (.ref 4), some (.ref 19), some (.int 0)]) (S1 := [.int 1, .int 0, .ref 0, .ref 4]) zd0_249 rfl rfl rfl ?_
  refine z_e1 (pc1 := 251) (L1 := [some (.ref 0), some (.ref 4), some (.ref 19), some (.int 0)]) (S1 := [.int 1, .ref 0, .ref 4]) zd0_250 rfl rfl rfl ?_
  refine z_eial (y := x1) zd0_251 h0 (by decide) g1 ?_
  refine z_e1 (pc1 := 253) (L1 := [some (.ref 0), some (.ref 4), some (.ref 19), some (.int 0)]) (S1 := [.ref 0, .int x1, .ref 4]) zd0_252 rfl rfl rfl ?_
  refine z_e1 (pc1 := 254) (L1 := [some (.ref 0), some (.ref 4), some (.ref 19), some (.int 0)]) (S1 := [.int 0, .ref 0, .int x1, .ref 4]) zd0_253 rfl rfl rfl ?_
  refine z_e1 (pc1 := 255) (L1 := [some (.ref 0), some (.ref 4), some (.ref 19), some (.int 0)]) (S1 := [.int 2, .int 0, .ref 0, .int x1, .ref 4]) zd0_254 rfl rfl rfl ?_
  refine z_e1 (pc1 := 256) (L1 := [some (.ref 0), some (.ref 4), some (.ref 19), some (.int 0)]) (S1 := [.int 2, .ref 0, .int x1, .ref 4]) zd0_255 rfl rfl rfl ?_
  refine z_eial (y := x2) zd0_256 h0 (by decide) g2 ?_
  refine z_ecV (vs := [.ref 4, .int x1, .int x2]) (r := []) (L2 := [some (.ref 4), some (.int x1), some (.int x2), none]) zd0_257 zcV0_23 (Or.inl rfl) rfl b4 (by decide) rfl rfl rfl (Nat.le_of_ble_eq_true rfl) zm34 (Nat.le_of_ble_eq_true rfl) rfl ?_
  refine z_e1 (pc1 := 1) (L1 := [some (.ref 4), some (.int x1), some (.int x2), none]) (S1 := [.ref 4]) zd34_0 rfl rfl rfl ?_
  refine z_e1 (pc1 := 2) (L1 := [some (.ref 4), some (.int x1), some (.int x2), none]) (S1 := [.int x1, .ref 4]) zd34_1 rfl rfl rfl ?_
  refine z_ecV (vs := [.ref 4, .int x1]) (r := []) (L2 := [some (.ref 4), some (.int x1)]) zd34_2 zcV34_85 (Or.inl rfl) rfl b4 (by decide) rfl rfl rfl (Nat.le_of_ble_eq_true rfl) zm35 (Nat.le_of_ble_eq_true rfl) rfl ?_
  refine z_e1 (pc1 := 1) (L1 := [some (.ref 4), some (.int x1)]) (S1 := [.int x1]) zd35_0 rfl rfl rfl ?_
  by_cases e1 : x1.toInt < 0
  · refine z_ez (t := 12) (t2 := 12) zd35_1 rfl (z_b_ltx1 (k := 0) (by decide) e1) ?_
    refine z_e1 (pc1 := 13) (L1 := [some (.ref 4), some (.int x1)]) (S1 := [.null]) zd35_12 rfl rfl rfl ?_
    refine z_e1 (pc1 := 22) (L1 := [some (.ref 4), some (.int x1)]) (S1 := [.null]) zd35_13 rfl rfl rfl ?_
    refine z_ern zd35_22 zr35 ?_
    show z_ev _ 34 5 [some (.ref 4), some (.int x1), some (.int x2), none] [.null] _ _
    refine z_e1 (pc1 := 6) (L1 := [some (.ref 4), some (.int x1), some (.int x2), some (.null)]) (S1 := []) zd34_5 rfl rfl rfl ?_
    refine z_e1 (pc1 := 7) (L1 := [some (.ref 4), some (.int x1), some (.int x2), some (.null)]) (S1 := [.null]) zd34_6 rfl rfl rfl ?_
    refine z_e1 (pc1 := 10) (L1 := [some (.ref 4), some (.int x1), some (.int x2), some (.null)]) (S1 := []) zd34_7 rfl rfl rfl ?_
    refine z_e1 (pc1 := 11) (L1 := [some (.ref 4), some (.int x1), some (.int x2), some (.null)]) (S1 := [.int (-1)]) zd34_10 rfl rfl rfl ?_
    refine z_eri zd34_11 zr34 ?_
    show z_ev _ 0 260 [some (.ref 0), some (.ref 4), some (.ref 19), some (.int 0)] [.int (-1)] _ _
    refine z_e1 (pc1 := 261) (L1 := [some (.ref 0), some (.ref 4), some (.ref 19), some (.int 0)]) (S1 := [.ref 19, .int (-1)]) zd0_260 rfl rfl rfl ?_
    refine z_e1 (pc1 := 262) (L1 := [some (.ref 0), some (.ref 4), some (.ref 19), some (.int 0)]) (S1 := [.ref 0, .ref 19, .int (-1)]) zd0_261 rfl rfl rfl ?_
    refine z_e1 (pc1 := 263) (L1 := [some (.ref 0), some (.ref 4), some (.ref 19), some (.int 0)]) (S1 := [.int 0, .ref 0, .ref 19, .int (-1)]) zd0_262 rfl rfl rfl ?_
    refine z_e1 (pc1 := 264) (L1 := [some (.ref 0), some (.ref 4), some (.ref 19), some (.int 0)]) (S1 := [.int 1, .int 0, .ref 0, .ref 19, .int (-1)]) zd0_263 rfl rfl rfl ?_
    refine z_e1 (pc1 := 265) (L1 := [some (.ref 0), some (.ref 4), some (.ref 19), some (.int 0)]) (S1 := [.int 1, .ref 0, .ref 19, .int (-1)]) zd0_264 rfl rfl rfl ?_
    refine z_eial (y := x1) zd0_265 h0 (by decide) g1 ?_
    refine z_e1 (pc1 := 267) (L1 := [some (.ref 0), some (.ref 4), some (.ref 19), some (.int 0)]) (S1 := [.ref 0, .int x1, .ref 19, .int (-1)]) zd0_266 rfl rfl rfl ?_
    refine z_e1 (pc1 := 268) (L1 := [some (.ref 0), some (.ref 4), some (.ref 19), some (.int 0)]) (S1 := [.int 0, .ref 0, .int x1, .ref 19, .int (-1)]) zd0_267 rfl rfl rfl ?_
    refine z_e1 (pc1 := 269) (L1 := [some (.ref 0), some (.ref 4), some (.ref 19), some (.int 0)]) (S1 := [.int 2, .int 0, .ref 0, .int x1, .ref 19, .int (-1)]) zd0_268 rfl rfl rfl ?_
    refine z_e1 (pc1 := 270) (L1 := [some (.ref 0), some (.ref 4), some (.ref 19), some (.int 0)]) (S1 := [.int 2, .ref 0, .int x1, .ref 19, .int (-1)]) zd0_269 rfl rfl rfl ?_
    refine z_eial (y := x2) zd0_270 h0 (by decide) g2 ?_
    refine z_ecV (vs := [.ref 19, .int x1, .int x2]) (r := [.int (-1)]) (L2 := [some (.ref 19), some (.int x1), some (.int x2)]) zd0_271 zcV0_26 (Or.inl rfl) rfl b19 (by decide) rfl rfl rfl (Nat.le_of_ble_eq_true rfl) zm208 (Nat.le_of_ble_eq_true rfl) rfl ?_
    refine z_e1 (pc1 := 1) (L1 := [some (.ref 19), some (.int x1), some (.int x2)]) (S1 := [.ref 19]) zd208_0 rfl rfl rfl ?_
    refine z_e1 (pc1 := 2) (L1 := [some (.ref 19), some (.int x1), some (.int x2)]) (S1 := [.int x1, .ref 19]) zd208_1 rfl rfl rfl ?_
    refine z_ecV (vs := [.ref 19, .int x1]) (r := []) (L2 := [some (.ref 19), some (.int x1)]) zd208_2 zcV208_209 (Or.inl rfl) rfl b19 (by decide) rfl rfl rfl (Nat.le_of_ble_eq_true rfl) zm209 (Nat.le_of_ble_eq_true rfl) rfl ?_
    refine z_e1 (pc1 := 1) (L1 := [some (.ref 19), some (.int x1)]) (S1 := [.int x1]) zd209_0 rfl rfl rfl ?_
    refine z_ez (t := 16) (t2 := 16) zd209_1 rfl (z_b_ltx1 (k := 0) (by decide) (show x1.toInt < 0 from by omega)) ?_
    refine z_e1 (pc1 := 17) (L1 := [some (.ref 19), some (.int x1)]) (S1 := [.int 0]) zd209_16 rfl rfl rfl ?_
    refine z_erz zd209_17 zr209 (by decide) ?_
    show z_ev _ 208 5 [some (.ref 19), some (.int x1), some (.int x2)] [.int 0] _ _
    refine z_ez (t := 10) (t2 := 8) zd208_5 rfl rfl ?_
    refine z_e1 (pc1 := 9) (L1 := [some (.ref 19), some (.int x1), some (.int x2)]) (S1 := [.int (-1)]) zd208_8 rfl rfl rfl ?_
    refine z_eri zd208_9 zr208 ?_
    show z_ev _ 0 274 [some (.ref 0), some (.ref 4), some (.ref 19), some (.int 0)] [.int (-1), .int (-1)] _ _
    refine z_ej (t := 1775) (t2 := 1775) zd0_274 rfl rfl ?_
    refine z_e1 (pc1 := 1778) (L1 := [some (.ref 0), some (.ref 4), some (.ref 19), some (.int 6)]) (S1 := []) zd0_1775 rfl rfl rfl ?_
    refine z_e1 (pc1 := 18) (L1 := [some (.ref 0), some (.ref 4), some (.ref 19), some (.int 6)]) (S1 := []) zd0_1778 rfl rfl rfl ?_
    refine z_e1 (pc1 := 19) (L1 := [some (.ref 0), some (.ref 4), some (.ref 19), some (.int 6)]) (S1 := [.int 6]) zd0_18 rfl rfl rfl ?_
    refine z_e1 (pc1 := 20) (L1 := [some (.ref 0), some (.ref 4), some (.ref 19), some (.int 6)]) (S1 := [.ref 0, .int 6]) zd0_19 rfl rfl rfl ?_
    refine z_ealn (y := 6) zd0_20 h0 rfl ?_
    refine z_e1 (pc1 := 23) (L1 := [some (.ref 0), some (.ref 4), some (.ref 19), some (.int 6)]) (S1 := [.int 6, .int 6, .int 6]) zd0_21 rfl rfl rfl ?_
    refine z_e1 (pc1 := 24) (L1 := [some (.ref 0), some (.ref 4), some (.ref 19), some (.int 6)]) (S1 := [.int 0, .int 6]) zd0_23 rfl rfl rfl ?_
    refine z_ej (t := 1781) (t2 := 1781) zd0_24 rfl rfl ?_
    refine z_e1 (pc1 := 1782) (L1 := [some (.ref 0), some (.ref 4), some (.ref 19), some (.int 6)]) (S1 := [.int 1]) zd0_1781 rfl rfl rfl ?_
    refine z_erz zd0_1782 zr0 (by decide) ?_
    exact z_K1i hN hS (by decide) (by decide)
  · refine z_ez (t := 12) (t2 := 4) zd35_1 rfl (z_b_ltx0 (k := 0) (by decide) e1) ?_
    refine z_e1 (pc1 := 5) (L1 := [some (.ref 4), some (.int x1)]) (S1 := [.int x1]) zd35_4 rfl rfl rfl ?_
    refine z_e1 (pc1 := 6) (L1 := [some (.ref 4), some (.int x1)]) (S1 := [.ref 4, .int x1]) zd35_5 rfl rfl rfl ?_
    refine z_egf (fs := [.ref 5, .ref 10, .ref 11, .int 0, .ref 12, .int 0, .ref 13, .ref 14, .ref 15, .ref 16, .ref 17, .ref 18, .null]) (v := .int 0) zd35_6 zf35_59 b4 (by decide) (by decide) rfl ?_
    refine z_ej (t := 16) (t2 := 12) zd35_9 rfl (z_b_ltx0 (k := 0) (by decide) (show ¬ x1.toInt < 0 from by omega)) ?_
    refine z_e1 (pc1 := 13) (L1 := [some (.ref 4), some (.int x1)]) (S1 := [.null]) zd35_12 rfl rfl rfl ?_
    refine z_e1 (pc1 := 22) (L1 := [some (.ref 4), some (.int x1)]) (S1 := [.null]) zd35_13 rfl rfl rfl ?_
    refine z_ern zd35_22 zr35 ?_
    show z_ev _ 34 5 [some (.ref 4), some (.int x1), some (.int x2), none] [.null] _ _
    refine z_e1 (pc1 := 6) (L1 := [some (.ref 4), some (.int x1), some (.int x2), some (.null)]) (S1 := []) zd34_5 rfl rfl rfl ?_
    refine z_e1 (pc1 := 7) (L1 := [some (.ref 4), some (.int x1), some (.int x2), some (.null)]) (S1 := [.null]) zd34_6 rfl rfl rfl ?_
    refine z_e1 (pc1 := 10) (L1 := [some (.ref 4), some (.int x1), some (.int x2), some (.null)]) (S1 := []) zd34_7 rfl rfl rfl ?_
    refine z_e1 (pc1 := 11) (L1 := [some (.ref 4), some (.int x1), some (.int x2), some (.null)]) (S1 := [.int (-1)]) zd34_10 rfl rfl rfl ?_
    refine z_eri zd34_11 zr34 ?_
    show z_ev _ 0 260 [some (.ref 0), some (.ref 4), some (.ref 19), some (.int 0)] [.int (-1)] _ _
    refine z_e1 (pc1 := 261) (L1 := [some (.ref 0), some (.ref 4), some (.ref 19), some (.int 0)]) (S1 := [.ref 19, .int (-1)]) zd0_260 rfl rfl rfl ?_
    refine z_e1 (pc1 := 262) (L1 := [some (.ref 0), some (.ref 4), some (.ref 19), some (.int 0)]) (S1 := [.ref 0, .ref 19, .int (-1)]) zd0_261 rfl rfl rfl ?_
    refine z_e1 (pc1 := 263) (L1 := [some (.ref 0), some (.ref 4), some (.ref 19), some (.int 0)]) (S1 := [.int 0, .ref 0, .ref 19, .int (-1)]) zd0_262 rfl rfl rfl ?_
    refine z_e1 (pc1 := 264) (L1 := [some (.ref 0), some (.ref 4), some (.ref 19), some (.int 0)]) (S1 := [.int 1, .int 0, .ref 0, .ref 19, .int (-1)]) zd0_263 rfl rfl rfl ?_
    refine z_e1 (pc1 := 265) (L1 := [some (.ref 0), some (.ref 4), some (.ref 19), some (.int 0)]) (S1 := [.int 1, .ref 0, .ref 19, .int (-1)]) zd0_264 rfl rfl rfl ?_
    refine z_eial (y := x1) zd0_265 h0 (by decide) g1 ?_
    refine z_e1 (pc1 := 267) (L1 := [some (.ref 0), some (.ref 4), some (.ref 19), some (.int 0)]) (S1 := [.ref 0, .int x1, .ref 19, .int (-1)]) zd0_266 rfl rfl rfl ?_
    refine z_e1 (pc1 := 268) (L1 := [some (.ref 0), some (.ref 4), some (.ref 19), some (.int 0)]) (S1 := [.int 0, .ref 0, .int x1, .ref 19, .int (-1)]) zd0_267 rfl rfl rfl ?_
    refine z_e1 (pc1 := 269) (L1 := [some (.ref 0), some (.ref 4), some (.ref 19), some (.int 0)]) (S1 := [.int 2, .int 0, .ref 0, .int x1, .ref 19, .int (-1)]) zd0_268 rfl rfl rfl ?_
    refine z_e1 (pc1 := 270) (L1 := [some (.ref 0), some (.ref 4), some (.ref 19), some (.int 0)]) (S1 := [.int 2, .ref 0, .int x1, .ref 19, .int (-1)]) zd0_269 rfl rfl rfl ?_
    refine z_eial (y := x2) zd0_270 h0 (by decide) g2 ?_
    refine z_ecV (vs := [.ref 19, .int x1, .int x2]) (r := [.int (-1)]) (L2 := [some (.ref 19), some (.int x1), some (.int x2)]) zd0_271 zcV0_26 (Or.inl rfl) rfl b19 (by decide) rfl rfl rfl (Nat.le_of_ble_eq_true rfl) zm208 (Nat.le_of_ble_eq_true rfl) rfl ?_
    refine z_e1 (pc1 := 1) (L1 := [some (.ref 19), some (.int x1), some (.int x2)]) (S1 := [.ref 19]) zd208_0 rfl rfl rfl ?_
    refine z_e1 (pc1 := 2) (L1 := [some (.ref 19), some (.int x1), some (.int x2)]) (S1 := [.int x1, .ref 19]) zd208_1 rfl rfl rfl ?_
    refine z_ecV (vs := [.ref 19, .int x1]) (r := []) (L2 := [some (.ref 19), some (.int x1)]) zd208_2 zcV208_209 (Or.inl rfl) rfl b19 (by decide) rfl rfl rfl (Nat.le_of_ble_eq_true rfl) zm209 (Nat.le_of_ble_eq_true rfl) rfl ?_
    refine z_e1 (pc1 := 1) (L1 := [some (.ref 19), some (.int x1)]) (S1 := [.int x1]) zd209_0 rfl rfl rfl ?_
    refine z_ez (t := 16) (t2 := 4) zd209_1 rfl (z_b_ltx0 (k := 0) (by decide) (show ¬ x1.toInt < 0 from by omega)) ?_
    refine z_e1 (pc1 := 5) (L1 := [some (.ref 19), some (.int x1)]) (S1 := [.int x1]) zd209_4 rfl rfl rfl ?_
    refine z_e1 (pc1 := 6) (L1 := [some (.ref 19), some (.int x1)]) (S1 := [.ref 19, .int x1]) zd209_5 rfl rfl rfl ?_
    refine z_egf (fs := [.ref 20, .int 0, .ref 21, .ref 22, .ref 23, .ref 24, .ref 25, .ref 26, .ref 27, .ref 28, .ref 29, .ref 30, .ref 31, .int 0, .ref 32, .ref 33, .ref 34, .ref 35, .ref 36, .ref 37, .ref 38, .int 0, .int 0, .int 0, .int 0, .int 0, .int 0, .int 0, .int 0, .int 0, .int 0, .ref 39, .ref 40, .ref 41, .int 0, .int 0, .ref 42, .ref 43, .ref 44, .ref 45, .ref 46, .int 0, .ref 47, .int 0, .int 0, .int 0, .ref 48, .int 0, .int 0, .ref 49, .ref 50, .ref 51, .ref 52]) (v := .int 0) zd209_6 zf209_110 b19 (by decide) (by decide) rfl ?_
    refine z_ej (t := 16) (t2 := 16) zd209_9 rfl (z_b_gex0 (k := 0) (by decide) (show ¬ x1.toInt < 0 from by omega)) ?_
    refine z_e1 (pc1 := 17) (L1 := [some (.ref 19), some (.int x1)]) (S1 := [.int 0]) zd209_16 rfl rfl rfl ?_
    refine z_erz zd209_17 zr209 (by decide) ?_
    show z_ev _ 208 5 [some (.ref 19), some (.int x1), some (.int x2)] [.int 0] _ _
    refine z_ez (t := 10) (t2 := 8) zd208_5 rfl rfl ?_
    refine z_e1 (pc1 := 9) (L1 := [some (.ref 19), some (.int x1), some (.int x2)]) (S1 := [.int (-1)]) zd208_8 rfl rfl rfl ?_
    refine z_eri zd208_9 zr208 ?_
    show z_ev _ 0 274 [some (.ref 0), some (.ref 4), some (.ref 19), some (.int 0)] [.int (-1), .int (-1)] _ _
    refine z_ej (t := 1775) (t2 := 1775) zd0_274 rfl rfl ?_
    refine z_e1 (pc1 := 1778) (L1 := [some (.ref 0), some (.ref 4), some (.ref 19), some (.int 6)]) (S1 := []) zd0_1775 rfl rfl rfl ?_
    refine z_e1 (pc1 := 18) (L1 := [some (.ref 0), some (.ref 4), some (.ref 19), some (.int 6)]) (S1 := []) zd0_1778 rfl rfl rfl ?_
    refine z_e1 (pc1 := 19) (L1 := [some (.ref 0), some (.ref 4), some (.ref 19), some (.int 6)]) (S1 := [.int 6]) zd0_18 rfl rfl rfl ?_
    refine z_e1 (pc1 := 20) (L1 := [some (.ref 0), some (.ref 4), some (.ref 19), some (.int 6)]) (S1 := [.ref 0, .int 6]) zd0_19 rfl rfl rfl ?_
    refine z_ealn (y := 6) zd0_20 h0 rfl ?_
    refine z_e1 (pc1 := 23) (L1 := [some (.ref 0), some (.ref 4), some (.ref 19), some (.int 6)]) (S1 := [.int 6, .int 6, .int 6]) zd0_21 rfl rfl rfl ?_
    refine z_e1 (pc1 := 24) (L1 := [some (.ref 0), some (.ref 4), some (.ref 19), some (.int 6)]) (S1 := [.int 0, .int 6]) zd0_23 rfl rfl rfl ?_
    refine z_ej (t := 1781) (t2 := 1781) zd0_24 rfl rfl ?_
    refine z_e1 (pc1 := 1782) (L1 := [some (.ref 0), some (.ref 4), some (.ref 19), some (.int 6)]) (S1 := [.int 1]) zd0_1781 rfl rfl rfl ?_
    refine z_erz zd0_1782 zr0 (by decide) ?_
    exact z_K1i hN hS (by decide) (by decide)
