/-! the calls, one by one, on fresh objects -/
theorem z_C1 {M : zH} {xs : Nat → Int32} {x1 x2 x3 x4 x5 : Int32} (h0 : M[0]? = some (.inl (0, 6, .inl xs))) (hN : M.length = 53) (hS : z_sz M ≤ 50000) (hB : z_fr M 4 53) (g1 : xs 1 = x1) (g2 : xs 2 = x2) (g3 : xs 3 = x3) (g4 : xs 4 = x4) (g5 : xs 5 = x5) : z_ev 2047 0 233 [some (.ref 0), some (.ref 4), some (.ref 19), some (.int 0)] [] M z_K1 := by
  have b4 := z_qO (hB 4 (by decide) (by decide))
  have b5 := z_qO (hB 5 (by decide) (by decide))
  obtain ⟨f7, b7, c7⟩ := z_qI (hB 7 (by decide) (by decide))
  have b19 := z_qO (hB 19 (by decide) (by decide))
  obtain ⟨f24, b24, c24⟩ := z_qI (hB 24 (by decide) (by decide))
  obtain ⟨f25, b25, c25⟩ := z_qI (hB 25 (by decide) (by decide))
  obtain ⟨f27, b27, c27⟩ := z_qI (hB 27 (by decide) (by decide))
  obtain ⟨f28, b28, c28⟩ := z_qI (hB 28 (by decide) (by decide))
  refine z_e1 (pc1 := 234) (L1 := [some (.ref 0), some (.ref 4), some (.ref 19), some (.int 0)]) (S1 := [.ref 4]) zd0_233 rfl rfl rfl ?_
  refine z_ecV (vs := [.ref 4]) (r := []) (L2 := [some (.ref 4), none, none]) zd0_234 zcV0_18 (Or.inl rfl) rfl b4 (by decide) rfl rfl rfl (Nat.le_of_ble_eq_true rfl) zm5 (Nat.le_of_ble_eq_true rfl) rfl ?_
  refine z_e1 (pc1 := 1) (L1 := [some (.ref 4), none, none]) (S1 := [.ref 4]) zd5_0 rfl rfl rfl ?_
  refine z_egf (fs := [.ref 5, .ref 10, .ref 11, .int 0, .ref 12, .int 0, .ref 13, .ref 14, .ref 15, .ref 16, .ref 17, .ref 18, .null]) (v := .int 0) zd5_1 zf5_59 b4 (by decide) (by decide) rfl ?_
  refine z_e1 (pc1 := 6) (L1 := [some (.ref 4), none, none]) (S1 := [.int 8, .int 0]) zd5_4 rfl rfl rfl ?_
  refine z_ej (t := 12) (t2 := 12) zd5_6 rfl rfl ?_
  refine z_e1 (pc1 := 13) (L1 := [some (.ref 4), none, none]) (S1 := [.ref 4]) zd5_12 rfl rfl rfl ?_
  refine z_egf (fs := [.ref 5, .ref 10, .ref 11, .int 0, .ref 12, .int 0, .ref 13, .ref 14, .ref 15, .ref 16, .ref 17, .ref 18, .null]) (v := .ref 5) zd5_13 zf5_10 b4 (by decide) (by decide) rfl ?_
  refine z_ecV (vs := [.ref 5]) (r := []) (L2 := [some (.ref 5), none]) zd5_16 zcV5_62 (Or.inl rfl) rfl b5 (by decide) rfl rfl rfl (Nat.le_of_ble_eq_true rfl) zm6 (Nat.le_of_ble_eq_true rfl) rfl ?_
  refine z_e1 (pc1 := 1) (L1 := [some (.ref 5), none]) (S1 := [.ref 5]) zd6_0 rfl rfl rfl ?_
  refine z_e1 (pc1 := 2) (L1 := [some (.ref 5), none]) (S1 := [.int 0, .ref 5]) zd6_1 rfl rfl rfl ?_
  refine z_epf (fs := [.ref 6, .int 0, .int 0, .int 0, .int 0, .int 0, .int 0, .int 0, .ref 7, .ref 8, .int 0, .ref 9]) zd6_2 zf6_29 b5 (by decide) (by decide) rfl (Nat.le_of_ble_eq_true rfl) (Or.inl rfl) ?_
  refine z_e1 (pc1 := 6) (L1 := [some (.ref 5), none]) (S1 := [.ref 5]) zd6_5 rfl rfl rfl ?_
  refine z_e1 (pc1 := 7) (L1 := [some (.ref 5), none]) (S1 := [.int (-1), .ref 5]) zd6_6 rfl rfl rfl ?_
  refine z_epf (fs := [.ref 6, .int 0, .int 0, .int 0, .int 0, .int 0, .int 0, .int 0, .ref 7, .ref 8, .int 0, .ref 9]) zd6_7 zf6_32 (z_gs1 b5) (by decide) (by decide) rfl (Nat.le_of_ble_eq_true rfl) (Or.inl rfl) ?_
  refine z_e1 (pc1 := 11) (L1 := [some (.ref 5), none]) (S1 := [.ref 5]) zd6_10 rfl rfl rfl ?_
  refine z_e1 (pc1 := 12) (L1 := [some (.ref 5), none]) (S1 := [.ref 5, .ref 5]) zd6_11 rfl rfl rfl ?_
  refine z_e1 (pc1 := 13) (L1 := [some (.ref 5), none]) (S1 := [.ref 5, .ref 5, .ref 5]) zd6_12 rfl rfl rfl ?_
  refine z_e1 (pc1 := 14) (L1 := [some (.ref 5), none]) (S1 := [.ref 5, .ref 5, .ref 5, .ref 5]) zd6_13 rfl rfl rfl ?_
  refine z_e1 (pc1 := 15) (L1 := [some (.ref 5), none]) (S1 := [.ref 5, .ref 5, .ref 5, .ref 5, .ref 5]) zd6_14 rfl rfl rfl ?_
  refine z_e1 (pc1 := 16) (L1 := [some (.ref 5), none]) (S1 := [.int 0, .ref 5, .ref 5, .ref 5, .ref 5, .ref 5]) zd6_15 rfl rfl rfl ?_
  refine z_e1 (pc1 := 17) (L1 := [some (.ref 5), none]) (S1 := [.int 0, .ref 5, .int 0, .ref 5, .ref 5, .ref 5, .ref 5]) zd6_16 rfl rfl rfl ?_
  refine z_epf (fs := [.ref 6, .int 0, .int 0, .int (-1), .int 0, .int 0, .int 0, .int 0, .ref 7, .ref 8, .int 0, .ref 9]) zd6_17 zf6_35 (z_gs1 (z_gs1 b5)) (by decide) (by decide) rfl (Nat.le_of_ble_eq_true rfl) (Or.inl rfl) ?_
  refine z_e1 (pc1 := 21) (L1 := [some (.ref 5), none]) (S1 := [.int 0, .ref 5, .int 0, .ref 5, .ref 5, .ref 5]) zd6_20 rfl rfl rfl ?_
  refine z_epf (fs := [.ref 6, .int 0, .int 0, .int (-1), .int 0, .int 0, .int 0, .int 0, .ref 7, .ref 8, .int 0, .ref 9]) zd6_21 zf6_38 (z_gs1 (z_gs1 (z_gs1 b5))) (by decide) (by decide) rfl (Nat.le_of_ble_eq_true rfl) (Or.inl rfl) ?_
  refine z_e1 (pc1 := 25) (L1 := [some (.ref 5), none]) (S1 := [.int 0, .ref 5, .int 0, .ref 5, .ref 5]) zd6_24 rfl rfl rfl ?_
  refine z_epf (fs := [.ref 6, .int 0, .int 0, .int (-1), .int 0, .int 0, .int 0, .int 0, .ref 7, .ref 8, .int 0, .ref 9]) zd6_25 zf6_41 (z_gs1 (z_gs1 (z_gs1 (z_gs1 b5)))) (by decide) (by decide) rfl (Nat.le_of_ble_eq_true rfl) (Or.inl rfl) ?_
  refine z_e1 (pc1 := 29) (L1 := [some (.ref 5), none]) (S1 := [.int 0, .ref 5, .int 0, .ref 5]) zd6_28 rfl rfl rfl ?_
  refine z_epf (fs := [.ref 6, .int 0, .int 0, .int (-1), .int 0, .int 0, .int 0, .int 0, .ref 7, .ref 8, .int 0, .ref 9]) zd6_29 zf6_44 (z_gs1 (z_gs1 (z_gs1 (z_gs1 (z_gs1 b5))))) (by decide) (by decide) rfl (Nat.le_of_ble_eq_true rfl) (Or.inl rfl) ?_
  refine z_epf (fs := [.ref 6, .int 0, .int 0, .int (-1), .int 0, .int 0, .int 0, .int 0, .ref 7, .ref 8, .int 0, .ref 9]) zd6_32 zf6_47 (z_gs1 (z_gs1 (z_gs1 (z_gs1 (z_gs1 (z_gs1 b5)))))) (by decide) (by decide) rfl (Nat.le_of_ble_eq_true rfl) (Or.inl rfl) ?_
  refine z_e1 (pc1 := 36) (L1 := [some (.ref 5), none]) (S1 := [.ref 5]) zd6_35 rfl rfl rfl ?_
  refine z_egf (fs := [.ref 6, .int 0, .int 0, .int (-1), .int 0, .int 0, .int 0, .int 0, .ref 7, .ref 8, .int 0, .ref 9]) (v := .ref 7) zd6_36 zf6_15 (z_gs1 (z_gs1 (z_gs1 (z_gs1 (z_gs1 (z_gs1 (z_gs1 b5))))))) (by decide) (by decide) rfl ?_
  refine z_e1 (pc1 := 40) (L1 := [some (.ref 5), none]) (S1 := [.int (-1), .ref 7]) zd6_39 rfl rfl rfl ?_
  refine z_ecS (vs := [.ref 7, .int (-1)]) (r := []) (L2 := [some (.ref 7), some (.int (-1)), none, none]) zd6_40 zcS6_50 (Or.inl rfl) (Nat.le_of_ble_eq_true rfl) rfl rfl (Nat.le_of_ble_eq_true rfl) zm7 (Nat.le_of_ble_eq_true rfl) rfl ?_
  refine z_e1 (pc1 := 1) (L1 := [some (.ref 7), some (.int (-1)), none, none]) (S1 := [.int 0]) zd7_0 rfl rfl rfl ?_
  refine z_e1 (pc1 := 2) (L1 := [some (.ref 7), some (.int (-1)), some (.int 0), none]) (S1 := []) zd7_1 rfl rfl rfl ?_
  refine z_e1 (pc1 := 3) (L1 := [some (.ref 7), some (.int (-1)), some (.int 0), none]) (S1 := [.ref 7]) zd7_2 rfl rfl rfl ?_
  refine z_ealn (y := 10) zd7_3 (z_gn (by decide) (z_gn (by decide) (z_gn (by decide) (z_gn (by decide) (z_gn (by decide) (z_gn (by decide) (z_gn (by decide) b7))))))) rfl ?_
  refine z_e1 (pc1 := 5) (L1 := [some (.ref 7), some (.int (-1)), some (.int 0), some (.int 10)]) (S1 := []) zd7_4 rfl rfl rfl ?_
  refine z_e1 (pc1 := 6) (L1 := [some (.ref 7), some (.int (-1)), some (.int 0), some (.int 10)]) (S1 := [.int 0]) zd7_5 rfl rfl rfl ?_
  refine z_e1 (pc1 := 7) (L1 := [some (.ref 7), some (.int (-1)), some (.int 0), some (.int 10)]) (S1 := [.int 10, .int 0]) zd7_6 rfl rfl rfl ?_
  refine z_ej (t := 20) (t2 := 10) zd7_7 rfl rfl ?_
  refine z_e1 (pc1 := 11) (L1 := [some (.ref 7), some (.int (-1)), some (.int 0), some (.int 10)]) (S1 := [.ref 7]) zd7_10 rfl rfl rfl ?_
  refine z_e1 (pc1 := 12) (L1 := [some (.ref 7), some (.int (-1)), some (.int 0), some (.int 10)]) (S1 := [.int 0, .ref 7]) zd7_11 rfl rfl rfl ?_
  refine z_e1 (pc1 := 13) (L1 := [some (.ref 7), some (.int (-1)), some (.int 0), some (.int 10)]) (S1 := [.int (-1), .int 0, .ref 7]) zd7_12 rfl rfl rfl ?_
  refine z_eias zd7_13 (z_gn (by decide) (z_gn (by decide) (z_gn (by decide) (z_gn (by decide) (z_gn (by decide) (z_gn (by decide) (z_gn (by decide) b7))))))) (by decide) (by decide) ?_
  refine z_e1 (pc1 := 17) (L1 := [some (.ref 7), some (.int (-1)), some (.int 1), some (.int 10)]) (S1 := []) zd7_14 rfl rfl rfl ?_
  refine z_e1 (pc1 := 5) (L1 := [some (.ref 7), some (.int (-1)), some (.int 1), some (.int 10)]) (S1 := []) zd7_17 rfl rfl rfl ?_
  refine z_e1 (pc1 := 6) (L1 := [some (.ref 7), some (.int (-1)), some (.int 1), some (.int 10)]) (S1 := [.int 1]) zd7_5 rfl rfl rfl ?_
  refine z_e1 (pc1 := 7) (L1 := [some (.ref 7), some (.int (-1)), some (.int 1), some (.int 10)]) (S1 := [.int 10, .int 1]) zd7_6 rfl rfl rfl ?_
  refine z_ej (t := 20) (t2 := 10) zd7_7 rfl rfl ?_
  refine z_e1 (pc1 := 11) (L1 := [some (.ref 7), some (.int (-1)), some (.int 1), some (.int 10)]) (S1 := [.ref 7]) zd7_10 rfl rfl rfl ?_
  refine z_e1 (pc1 := 12) (L1 := [some (.ref 7), some (.int (-1)), some (.int 1), some (.int 10)]) (S1 := [.int 1, .ref 7]) zd7_11 rfl rfl rfl ?_
  refine z_e1 (pc1 := 13) (L1 := [some (.ref 7), some (.int (-1)), some (.int 1), some (.int 10)]) (S1 := [.int (-1), .int 1, .ref 7]) zd7_12 rfl rfl rfl ?_
  refine z_eias zd7_13 (z_gs1 (z_gn (by decide) (z_gn (by decide) (z_gn (by decide) (z_gn (by decide) (z_gn (by decide) (z_gn (by decide) (z_gn (by decide) b7)))))))) (by decide) (by decide) ?_
  refine z_e1 (pc1 := 17) (L1 := [some (.ref 7), some (.int (-1)), some (.int 2), some (.int 10)]) (S1 := []) zd7_14 rfl rfl rfl ?_
  refine z_e1 (pc1 := 5) (L1 := [some (.ref 7), some (.int (-1)), some (.int 2), some (.int 10)]) (S1 := []) zd7_17 rfl rfl rfl ?_
  refine z_e1 (pc1 := 6) (L1 := [some (.ref 7), some (.int (-1)), some (.int 2), some (.int 10)]) (S1 := [.int 2]) zd7_5 rfl rfl rfl ?_
  refine z_e1 (pc1 := 7) (L1 := [some (.ref 7), some (.int (-1)), some (.int 2), some (.int 10)]) (S1 := [.int 10, .int 2]) zd7_6 rfl rfl rfl ?_
  refine z_ej (t := 20) (t2 := 10) zd7_7 rfl rfl ?_
  refine z_e1 (pc1 := 11) (L1 := [some (.ref 7), some (.int (-1)), some (.int 2), some (.int 10)]) (S1 := [.ref 7]) zd7_10 rfl rfl rfl ?_
  refine z_e1 (pc1 := 12) (L1 := [some (.ref 7), some (.int (-1)), some (.int 2), some (.int 10)]) (S1 := [.int 2, .ref 7]) zd7_11 rfl rfl rfl ?_
  refine z_e1 (pc1 := 13) (L1 := [some (.ref 7), some (.int (-1)), some (.int 2), some (.int 10)]) (S1 := [.int (-1), .int 2, .ref 7]) zd7_12 rfl rfl rfl ?_
  refine z_eias zd7_13 (z_gs1 (z_gs1 (z_gn (by decide) (z_gn (by decide) (z_gn (by decide) (z_gn (by decide) (z_gn (by decide) (z_gn (by decide) (z_gn (by decide) b7))))))))) (by decide) (by decide) ?_
  refine z_e1 (pc1 := 17) (L1 := [some (.ref 7), some (.int (-1)), some (.int 3), some (.int 10)]) (S1 := []) zd7_14 rfl rfl rfl ?_
  refine z_e1 (pc1 := 5) (L1 := [some (.ref 7), some (.int (-1)), some (.int 3), some (.int 10)]) (S1 := []) zd7_17 rfl rfl rfl ?_
  refine z_e1 (pc1 := 6) (L1 := [some (.ref 7), some (.int (-1)), some (.int 3), some (.int 10)]) (S1 := [.int 3]) zd7_5 rfl rfl rfl ?_
  refine z_e1 (pc1 := 7) (L1 := [some (.ref 7), some (.int (-1)), some (.int 3), some (.int 10)]) (S1 := [.int 10, .int 3]) zd7_6 rfl rfl rfl ?_
  refine z_ej (t := 20) (t2 := 10) zd7_7 rfl rfl ?_
  refine z_e1 (pc1 := 11) (L1 := [some (.ref 7), some (.int (-1)), some (.int 3), some (.int 10)]) (S1 := [.ref 7]) zd7_10 rfl rfl rfl ?_
  refine z_e1 (pc1 := 12) (L1 := [some (.ref 7), some (.int (-1)), some (.int 3), some (.int 10)]) (S1 := [.int 3, .ref 7]) zd7_11 rfl rfl rfl ?_
  refine z_e1 (pc1 := 13) (L1 := [some (.ref 7), some (.int (-1)), some (.int 3), some (.int 10)]) (S1 := [.int (-1), .int 3, .ref 7]) zd7_12 rfl rfl rfl ?_
  refine z_eias zd7_13 (z_gs1 (z_gs1 (z_gs1 (z_gn (by decide) (z_gn (by decide) (z_gn (by decide) (z_gn (by decide) (z_gn (by decide) (z_gn (by decide) (z_gn (by decide) b7)))))))))) (by decide) (by decide) ?_
  refine z_e1 (pc1 := 17) (L1 := [some (.ref 7), some (.int (-1)), some (.int 4), some (.int 10)]) (S1 := []) zd7_14 rfl rfl rfl ?_
  refine z_e1 (pc1 := 5) (L1 := [some (.ref 7), some (.int (-1)), some (.int 4), some (.int 10)]) (S1 := []) zd7_17 rfl rfl rfl ?_
  refine z_e1 (pc1 := 6) (L1 := [some (.ref 7), some (.int (-1)), some (.int 4), some (.int 10)]) (S1 := [.int 4]) zd7_5 rfl rfl rfl ?_
  refine z_e1 (pc1 := 7) (L1 := [some (.ref 7), some (.int (-1)), some (.int 4), some (.int 10)]) (S1 := [.int 10, .int 4]) zd7_6 rfl rfl rfl ?_
  refine z_ej (t := 20) (t2 := 10) zd7_7 rfl rfl ?_
  refine z_e1 (pc1 := 11) (L1 := [some (.ref 7), some (.int (-1)), some (.int 4), some (.int 10)]) (S1 := [.ref 7]) zd7_10 rfl rfl rfl ?_
  refine z_e1 (pc1 := 12) (L1 := [some (.ref 7), some (.int (-1)), some (.int 4), some (.int 10)]) (S1 := [.int 4, .ref 7]) zd7_11 rfl rfl rfl ?_
  refine z_e1 (pc1 := 13) (L1 := [some (.ref 7), some (.int (-1)), some (.int 4), some (.int 10)]) (S1 := [.int (-1), .int 4, .ref 7]) zd7_12 rfl rfl rfl ?_
  refine z_eias zd7_13 (z_gs1 (z_gs1 (z_gs1 (z_gs1 (z_gn (by decide) (z_gn (by decide) (z_gn (by decide) (z_gn (by decide) (z_gn (by decide) (z_gn (by decide) (z_gn (by decide) b7))))))))))) (by decide) (by decide) ?_
  refine z_e1 (pc1 := 17) (L1 := [some (.ref 7), some (.int (-1)), some (.int 5), some (.int 10)]) (S1 := []) zd7_14 rfl rfl rfl ?_
  refine z_e1 (pc1 := 5) (L1 := [some (.ref 7), some (.int (-1)), some (.int 5), some (.int 10)]) (S1 := []) zd7_17 rfl rfl rfl ?_
  refine z_e1 (pc1 := 6) (L1 := [some (.ref 7), some (.int (-1)), some (.int 5), some (.int 10)]) (S1 := [.int 5]) zd7_5 rfl rfl rfl ?_
  refine z_e1 (pc1 := 7) (L1 := [some (.ref 7), some (.int (-1)), some (.int 5), some (.int 10)]) (S1 := [.int 10, .int 5]) zd7_6 rfl rfl rfl ?_
  refine z_ej (t := 20) (t2 := 10) zd7_7 rfl rfl ?_
  refine z_e1 (pc1 := 11) (L1 := [some (.ref 7), some (.int (-1)), some (.int 5), some (.int 10)]) (S1 := [.ref 7]) zd7_10 rfl rfl rfl ?_
  refine z_e1 (pc1 := 12) (L1 := [some (.ref 7), some (.int (-1)), some (.int 5), some (.int 10)]) (S1 := [.int 5, .ref 7]) zd7_11 rfl rfl rfl ?_
  refine z_e1 (pc1 := 13) (L1 := [some (.ref 7), some (.int (-1)), some (.int 5), some (.int 10)]) (S1 := [.int (-1), .int 5, .ref 7]) zd7_12 rfl rfl rfl ?_
  refine z_eias zd7_13 (z_gs1 (z_gs1 (z_gs1 (z_gs1 (z_gs1 (z_gn (by decide) (z_gn (by decide) (z_gn (by decide) (z_gn (by decide) (z_gn (by decide) (z_gn (by decide) (z_gn (by decide) b7)))))))))))) (by decide) (by decide) ?_
  refine z_e1 (pc1 := 17) (L1 := [some (.ref 7), some (.int (-1)), some (.int 6), some (.int 10)]) (S1 := []) zd7_14 rfl rfl rfl ?_
  refine z_e1 (pc1 := 5) (L1 := [some (.ref 7), some (.int (-1)), some (.int 6), some (.int 10)]) (S1 := []) zd7_17 rfl rfl rfl ?_
  refine z_e1 (pc1 := 6) (L1 := [some (.ref 7), some (.int (-1)), some (.int 6), some (.int 10)]) (S1 := [.int 6]) zd7_5 rfl rfl rfl ?_
  refine z_e1 (pc1 := 7) (L1 := [some (.ref 7), some (.int (-1)), some (.int 6), some (.int 10)]) (S1 := [.int 10, .int 6]) zd7_6 rfl rfl rfl ?_
  refine z_ej (t := 20) (t2 := 10) zd7_7 rfl rfl ?_
  refine z_e1 (pc1 := 11) (L1 := [some (.ref 7), some (.int (-1)), some (.int 6), some (.int 10)]) (S1 := [.ref 7]) zd7_10 rfl rfl rfl ?_
  refine z_e1 (pc1 := 12) (L1 := [some (.ref 7), some (.int (-1)), some (.int 6), some (.int 10)]) (S1 := [.int 6, .ref 7]) zd7_11 rfl rfl rfl ?_
  refine z_e1 (pc1 := 13) (L1 := [some (.ref 7), some (.int (-1)), some (.int 6), some (.int 10)]) (S1 := [.int (-1), .int 6, .ref 7]) zd7_12 rfl rfl rfl ?_
  refine z_eias zd7_13 (z_gs1 (z_gs1 (z_gs1 (z_gs1 (z_gs1 (z_gs1 (z_gn (by decide) (z_gn (by decide) (z_gn (by decide) (z_gn (by decide) (z_gn (by decide) (z_gn (by decide) (z_gn (by decide) b7))))))))))))) (by decide) (by decide) ?_
  refine z_e1 (pc1 := 17) (L1 := [some (.ref 7), some (.int (-1)), some (.int 7), some (.int 10)]) (S1 := []) zd7_14 rfl rfl rfl ?_
  refine z_e1 (pc1 := 5) (L1 := [some (.ref 7), some (.int (-1)), some (.int 7), some (.int 10)]) (S1 := []) zd7_17 rfl rfl rfl ?_
  refine z_e1 (pc1 := 6) (L1 := [some (.ref 7), some (.int (-1)), some (.int 7), some (.int 10)]) (S1 := [.int 7]) zd7_5 rfl rfl rfl ?_
  refine z_e1 (pc1 := 7) (L1 := [some (.ref 7), some (.int (-1)), some (.int 7), some (.int 10)]) (S1 := [.int 10, .int 7]) zd7_6 rfl rfl rfl ?_
  refine z_ej (t := 20) (t2 := 10) zd7_7 rfl rfl ?_
  refine z_e1 (pc1 := 11) (L1 := [some (.ref 7), some (.int (-1)), some (.int 7), some (.int 10)]) (S1 := [.ref 7]) zd7_10 rfl rfl rfl ?_
  refine z_e1 (pc1 := 12) (L1 := [some (.ref 7), some (.int (-1)), some (.int 7), some (.int 10)]) (S1 := [.int 7, .ref 7]) zd7_11 rfl rfl rfl ?_
  refine z_e1 (pc1 := 13) (L1 := [some (.ref 7), some (.int (-1)), some (.int 7), some (.int 10)]) (S1 := [.int (-1), .int 7, .ref 7]) zd7_12 rfl rfl rfl ?_
  refine z_eias zd7_13 (z_gs1 (z_gs1 (z_gs1 (z_gs1 (z_gs1 (z_gs1 (z_gs1 (z_gn (by decide) (z_gn (by decide) (z_gn (by decide) (z_gn (by decide) (z_gn (by decide) (z_gn (by decide) (z_gn (by decide) b7)))))))))))))) (by decide) (by decide) ?_
  refine z_e1 (pc1 := 17) (L1 := [some (.ref 7), some (.int (-1)), some (.int 8), some (.int 10)]) (S1 := []) zd7_14 rfl rfl rfl ?_
  refine z_e1 (pc1 := 5) (L1 := [some (.ref 7), some (.int (-1)), some (.int 8), some (.int 10)]) (S1 := []) zd7_17 rfl rfl rfl ?_
  refine z_e1 (pc1 := 6) (L1 := [some (.ref 7), some (.int (-1)), some (.int 8), some (.int 10)]) (S1 := [.int 8]) zd7_5 rfl rfl rfl ?_
  refine z_e1 (pc1 := 7) (L1 := [some (.ref 7), some (.int (-1)), some (.int 8), some (.int 10)]) (S1 := [.int 10, .int 8]) zd7_6 rfl rfl rfl ?_
  refine z_ej (t := 20) (t2 := 10) zd7_7 rfl rfl ?_
  refine z_e1 (pc1 := 11) (L1 := [some (.ref 7), some (.int (-1)), some (.int 8), some (.int 10)]) (S1 := [.ref 7]) zd7_10 rfl rfl rfl ?_
  refine z_e1 (pc1 := 12) (L1 := [some (.ref 7), some (.int (-1)), some (.int 8), some (.int 10)]) (S1 := [.int 8, .ref 7]) zd7_11 rfl rfl rfl ?_
  refine z_e1 (pc1 := 13) (L1 := [some (.ref 7), some (.int (-1)), some (.int 8), some (.int 10)]) (S1 := [.int (-1), .int 8, .ref 7]) zd7_12 rfl rfl rfl ?_
  refine z_eias zd7_13 (z_gs1 (z_gs1 (z_gs1 (z_gs1 (z_gs1 (z_gs1 (z_gs1 (z_gs1 (z_gn (by decide) (z_gn (by decide) (z_gn (by decide) (z_gn (by decide) (z_gn (by decide) (z_gn (by decide) (z_gn (by decide) b7))))))))))))))) (by decide) (by decide) ?_
  refine z_e1 (pc1 := 17) (L1 := [some (.ref 7), some (.int (-1)), some (.int 9), some (.int 10)]) (S1 := []) zd7_14 rfl rfl rfl ?_
  refine z_e1 (pc1 := 5) (L1 := [some (.ref 7), some (.int (-1)), some (.int 9), some (.int 10)]) (S1 := []) zd7_17 rfl rfl rfl ?_
  refine z_e1 (pc1 := 6) (L1 := [some (.ref 7), some (.int (-1)), some (.int 9), some (.int 10)]) (S1 := [.int 9]) zd7_5 rfl rfl rfl ?_
  refine z_e1 (pc1 := 7) (L1 := [some (.ref 7), some (.int (-1)), some (.int 9), some (.int 10)]) (S1 := [.int 10, .int 9]) zd7_6 rfl rfl rfl ?_
  refine z_ej (t := 20) (t2 := 10) zd7_7 rfl rfl ?_
  refine z_e1 (pc1 := 11) (L1 := [some (.ref 7), some (.int (-1)), some (.int 9), some (.int 10)]) (S1 := [.ref 7]) zd7_10 rfl rfl rfl ?_
  refine z_e1 (pc1 := 12) (L1 := [some (.ref 7), some (.int (-1)), some (.int 9), some (.int 10)]) (S1 := [.int 9, .ref 7]) zd7_11 rfl rfl rfl ?_
  refine z_e1 (pc1 := 13) (L1 := [some (.ref 7), some (.int (-1)), some (.int 9), some (.int 10)]) (S1 := [.int (-1), .int 9, .ref 7]) zd7_12 rfl rfl rfl ?_
  refine z_eias zd7_13 (z_gs1 (z_gs1 (z_gs1 (z_gs1 (z_gs1 (z_gs1 (z_gs1 (z_gs1 (z_gs1 (z_gn (by decide) (z_gn (by decide) (z_gn (by decide) (z_gn (by decide) (z_gn (by decide) (z_gn (by decide) (z_gn (by decide) b7)))))))))))))))) (by decide) (by decide) ?_
  refine z_e1 (pc1 := 17) (L1 := [some (.ref 7), some (.int (-1)), some (.int 10), some (.int 10)]) (S1 := []) zd7_14 rfl rfl rfl ?_
  refine z_e1 (pc1 := 5) (L1 := [some (.ref 7), some (.int (-1)), some (.int 10), some (.int 10)]) (S1 := []) zd7_17 rfl rfl rfl ?_
  refine z_e1 (pc1 := 6) (L1 := [some (.ref 7), some (.int (-1)), some (.int 10), some (.int 10)]) (S1 := [.int 10]) zd7_5 rfl rfl rfl ?_
  refine z_e1 (pc1 := 7) (L1 := [some (.ref 7), some (.int (-1)), some (.int 10), some (.int 10)]) (S1 := [.int 10, .int 10]) zd7_6 rfl rfl rfl ?_
  refine z_ej (t := 20) (t2 := 20) zd7_7 rfl rfl ?_
  refine z_erv zd7_20 zr7 ?_
  show z_ev _ 6 43 [some (.ref 5), none] [] _ _
  refine z_e1 (pc1 := 44) (L1 := [some (.ref 5), none]) (S1 := [.ref 5]) zd6_43 rfl rfl rfl ?_
  refine z_e1 (pc1 := 46) (L1 := [some (.ref 5), none]) (S1 := [.int 113, .ref 5]) zd6_44 rfl rfl rfl ?_
  refine z_ecV (vs := [.ref 5, .int 113]) (r := []) (L2 := [some (.ref 5), some (.int 113)]) zd6_46 zcV6_56 (Or.inl rfl) rfl (z_gn (by decide) (z_gn (by decide) (z_gn (by decide) (z_gn (by decide) (z_gn (by decide) (z_gn (by decide) (z_gn (by decide) (z_gn (by decide) (z_gn (by decide) (z_gn (by decide) (z_gs1 (z_gs1 (z_gs1 (z_gs1 (z_gs1 (z_gs1 (z_gs1 b5))))))))))))))))) (by decide) rfl rfl rfl (Nat.le_of_ble_eq_true rfl) zm8 (Nat.le_of_ble_eq_true rfl) rfl ?_
  refine z_e1 (pc1 := 1) (L1 := [some (.ref 5), some (.int 113)]) (S1 := [.ref 5]) zd8_0 rfl rfl rfl ?_
  refine z_egf (fs := [.ref 6, .int 0, .int 0, .int (-1), .int 0, .int 0, .int 0, .int 0, .ref 7, .ref 8, .int 0, .ref 9]) (v := .int (-1)) zd8_1 zf8_32 (z_gn (by decide) (z_gn (by decide) (z_gn (by decide) (z_gn (by decide) (z_gn (by decide) (z_gn (by decide) (z_gn (by decide) (z_gn (by decide) (z_gn (by decide) (z_gn (by decide) (z_gs1 (z_gs1 (z_gs1 (z_gs1 (z_gs1 (z_gs1 (z_gs1 b5))))))))))))))))) (by decide) (by decide) rfl ?_
  refine z_ez (t := 8) (t2 := 8) zd8_4 rfl rfl ?_
  refine z_e1 (pc1 := 9) (L1 := [some (.ref 5), some (.int 113)]) (S1 := [.ref 5]) zd8_8 rfl rfl rfl ?_
  refine z_egf (fs := [.ref 6, .int 0, .int 0, .int (-1), .int 0, .int 0, .int 0, .int 0, .ref 7, .ref 8, .int 0, .ref 9]) (v := .int 0) zd8_9 zf8_29 (z_gn (by decide) (z_gn (by decide) (z_gn (by decide) (z_gn (by decide) (z_gn (by decide) (z_gn (by decide) (z_gn (by decide) (z_gn (by decide) (z_gn (by decide) (z_gn (by decide) (z_gs1 (z_gs1 (z_gs1 (z_gs1 (z_gs1 (z_gs1 (z_gs1 b5))))))))))))))))) (by decide) (by decide) rfl ?_
  refine z_e1 (pc1 := 13) (L1 := [some (.ref 5), some (.int 113)]) (S1 := [.ref 5, .int 0]) zd8_12 rfl rfl rfl ?_
  refine z_egf (fs := [.ref 6, .int 0, .int 0, .int (-1), .int 0, .int 0, .int 0, .int 0, .ref 7, .ref 8, .int 0, .ref 9]) (v := .int 0) zd8_13 zf8_25 (z_gn (by decide) (z_gn (by decide) (z_gn (by decide) (z_gn (by decide) (z_gn (by decide) (z_gn (by decide) (z_gn (by decide) (z_gn (by decide) (z_gn (by decide) (z_gn (by decide) (z_gs1 (z_gs1 (z_gs1 (z_gs1 (z_gs1 (z_gs1 (z_gs1 b5))))))))))))))))) (by decide) (by decide) rfl ?_
  refine z_ej (t := 45) (t2 := 45) zd8_16 rfl rfl ?_
  refine z_e1 (pc1 := 46) (L1 := [some (.ref 5), some (.int 113)]) (S1 := [.ref 5]) zd8_45 rfl rfl rfl ?_
  refine z_e1 (pc1 := 47) (L1 := [some (.ref 5), some (.int 113)]) (S1 := [.ref 5, .ref 5]) zd8_46 rfl rfl rfl ?_
  refine z_egf (fs := [.ref 6, .int 0, .int 0, .int (-1), .int 0, .int 0, .int 0, .int 0, .ref 7, .ref 8, .int 0, .ref 9]) (v := .int 0) zd8_47 zf8_29 (z_gn (by decide) (z_gn (by decide) (z_gn (by decide) (z_gn (by decide) (z_gn (by decide) (z_gn (by decide) (z_gn (by decide) (z_gn (by decide) (z_gn (by decide) (z_gn (by decide) (z_gs1 (z_gs1 (z_gs1 (z_gs1 (z_gs1 (z_gs1 (z_gs1 b5))))))))))))))))) (by decide) (by decide) rfl ?_
  refine z_epf (fs := [.ref 6, .int 0, .int 0, .int (-1), .int 0, .int 0, .int 0, .int 0, .ref 7, .ref 8, .int 0, .ref 9]) zd8_50 zf8_32 (z_gn (by decide) (z_gn (by decide) (z_gn (by decide) (z_gn (by decide) (z_gn (by decide) (z_gn (by decide) (z_gn (by decide) (z_gn (by decide) (z_gn (by decide) (z_gn (by decide) (z_gs1 (z_gs1 (z_gs1 (z_gs1 (z_gs1 (z_gs1 (z_gs1 b5))))))))))))))))) (by decide) (by decide) rfl (Nat.le_of_ble_eq_true rfl) (Or.inl rfl) ?_
  refine z_erv zd8_53 zr8 ?_
  show z_ev _ 6 49 [some (.ref 5), none] [] _ _
  refine z_e1 (pc1 := 50) (L1 := [some (.ref 5), none]) (S1 := [.ref 5]) zd6_49 rfl rfl rfl ?_
  refine z_e1 (pc1 := 52) (L1 := [some (.ref 5), none]) (S1 := [.int 32, .ref 5]) zd6_50 rfl rfl rfl ?_
  refine z_ecV (vs := [.ref 5, .int 32]) (r := []) (L2 := [some (.ref 5), some (.int 32)]) zd6_52 zcV6_56 (Or.inl rfl) rfl (z_gs1 (z_gn (by decide) (z_gn (by decide) (z_gn (by decide) (z_gn (by decide) (z_gn (by decide) (z_gn (by decide) (z_gn (by decide) (z_gn (by decide) (z_gn (by decide) (z_gn (by decide) (z_gs1 (z_gs1 (z_gs1 (z_gs1 (z_gs1 (z_gs1 (z_gs1 b5)))))))))))))))))) (by decide) rfl rfl rfl (Nat.le_of_ble_eq_true rfl) zm8 (Nat.le_of_ble_eq_true rfl) rfl ?_
  refine z_e1 (pc1 := 1) (L1 := [some (.ref 5), some (.int 32)]) (S1 := [.ref 5]) zd8_0 rfl rfl rfl ?_
  refine z_egf (fs := [.ref 6, .int 0, .int 0, .int 0, .int 0, .int 0, .int 0, .int 0, .ref 7, .ref 8, .int 0, .ref 9]) (v := .int 0) zd8_1 zf8_32 (z_gs1 (z_gn (by decide) (z_gn (by decide) (z_gn (by decide) (z_gn (by decide) (z_gn (by decide) (z_gn (by decide) (z_gn (by decide) (z_gn (by decide) (z_gn (by decide) (z_gn (by decide) (z_gs1 (z_gs1 (z_gs1 (z_gs1 (z_gs1 (z_gs1 (z_gs1 b5)))))))))))))))))) (by decide) (by decide) rfl ?_
  refine z_ez (t := 8) (t2 := 7) zd8_4 rfl rfl ?_
  refine z_erv zd8_7 zr8 ?_
  show z_ev _ 6 55 [some (.ref 5), none] [] _ _
  refine z_e1 (pc1 := 56) (L1 := [some (.ref 5), none]) (S1 := [.ref 5]) zd6_55 rfl rfl rfl ?_
  refine z_ecV (vs := [.ref 5]) (r := []) (L2 := [some (.ref 5), none, none]) zd6_56 zcV6_60 (Or.inl rfl) rfl (z_gs1 (z_gn (by decide) (z_gn (by decide) (z_gn (by decide) (z_gn (by decide) (z_gn (by decide) (z_gn (by decide) (z_gn (by decide) (z_gn (by decide) (z_gn (by decide) (z_gn (by decide) (z_gs1 (z_gs1 (z_gs1 (z_gs1 (z_gs1 (z_gs1 (z_gs1 b5)))))))))))))))))) (by decide) rfl rfl rfl (Nat.le_of_ble_eq_true rfl) zm9 (Nat.le_of_ble_eq_true rfl) rfl ?_
  refine z_e1 (pc1 := 1) (L1 := [some (.ref 5), none, none]) (S1 := [.int 0]) zd9_0 rfl rfl rfl ?_
  refine z_e1 (pc1 := 2) (L1 := [some (.ref 5), some (.int 0), none]) (S1 := []) zd9_1 rfl rfl rfl ?_
  refine z_e1 (pc1 := 3) (L1 := [some (.ref 5), some (.int 0), none]) (S1 := [.int 0]) zd9_2 rfl rfl rfl ?_
  refine z_e1 (pc1 := 5) (L1 := [some (.ref 5), some (.int 0), none]) (S1 := [.int 10, .int 0]) zd9_3 rfl rfl rfl ?_
  refine z_ej (t := 97) (t2 := 8) zd9_5 rfl rfl ?_
  refine z_e1 (pc1 := 9) (L1 := [some (.ref 5), some (.int 0), none]) (S1 := [.ref 5]) zd9_8 rfl rfl rfl ?_
  refine z_egf (fs := [.ref 6, .int 0, .int 0, .int 0, .int 0, .int 0, .int 0, .int 0, .ref 7, .ref 8, .int 0, .ref 9]) (v := .int 0) zd9_9 zf9_32 (z_gs1 (z_gn (by decide) (z_gn (by decide) (z_gn (by decide) (z_gn (by decide) (z_gn (by decide) (z_gn (by decide) (z_gn (by decide) (z_gn (by decide) (z_gn (by decide) (z_gn (by decide) (z_gs1 (z_gs1 (z_gs1 (z_gs1 (z_gs1 (z_gs1 (z_gs1 b5)))))))))))))))))) (by decide) (by decide) rfl ?_
  refine z_ez (t := 97) (t2 := 97) zd9_12 rfl rfl ?_
  refine z_e1 (pc1 := 98) (L1 := [some (.ref 5), some (.int 0), none]) (S1 := [.ref 5]) zd9_97 rfl rfl rfl ?_
  refine z_egf (fs := [.ref 6, .int 0, .int 0, .int 0, .int 0, .int 0, .int 0, .int 0, .ref 7, .ref 8, .int 0, .ref 9]) (v := .int 0) zd9_98 zf9_47 (z_gs1 (z_gn (by decide) (z_gn (by decide) (z_gn (by decide) (z_gn (by decide) (z_gn (by decide) (z_gn (by decide) (z_gn (by decide) (z_gn (by decide) (z_gn (by decide) (z_gn (by decide) (z_gs1 (z_gs1 (z_gs1 (z_gs1 (z_gs1 (z_gs1 (z_gs1 b5)))))))))))))))))) (by decide) (by decide) rfl ?_
  refine z_ez (t := 108) (t2 := 104) zd9_101 rfl rfl ?_
  refine z_e1 (pc1 := 105) (L1 := [some (.ref 5), some (.int 0), none]) (S1 := [.ref 5]) zd9_104 rfl rfl rfl ?_
  refine z_ecV (vs := [.ref 5]) (r := []) (L2 := [some (.ref 5)]) zd9_105 zcV9_66 (Or.inl rfl) rfl (z_gs1 (z_gn (by decide) (z_gn (by decide) (z_gn (by decide) (z_gn (by decide) (z_gn (by decide) (z_gn (by decide) (z_gn (by decide) (z_gn (by decide) (z_gn (by decide) (z_gn (by decide) (z_gs1 (z_gs1 (z_gs1 (z_gs1 (z_gs1 (z_gs1 (z_gs1 b5)))))))))))))))))) (by decide) rfl rfl rfl (Nat.le_of_ble_eq_true rfl) zm10 (Nat.le_of_ble_eq_true rfl) rfl ?_
  refine z_e1 (pc1 := 1) (L1 := [some (.ref 5)]) (S1 := [.ref 5]) zd10_0 rfl rfl rfl ?_
  refine z_egf (fs := [.ref 6, .int 0, .int 0, .int 0, .int 0, .int 0, .int 0, .int 0, .ref 7, .ref 8, .int 0, .ref 9]) (v := .int 0) zd10_1 zf10_32 (z_gs1 (z_gn (by decide) (z_gn (by decide) (z_gn (by decide) (z_gn (by decide) (z_gn (by decide) (z_gn (by decide) (z_gn (by decide) (z_gn (by decide) (z_gn (by decide) (z_gn (by decide) (z_gs1 (z_gs1 (z_gs1 (z_gs1 (z_gs1 (z_gs1 (z_gs1 b5)))))))))))))))))) (by decide) (by decide) rfl ?_
  refine z_ez (t := 15) (t2 := 15) zd10_4 rfl rfl ?_
  refine z_erv zd10_15 zr10 ?_
  show z_ev _ 9 108 [some (.ref 5), some (.int 0), none] [] _ _
  refine z_erv zd9_108 zr9 ?_
  show z_ev _ 6 59 [some (.ref 5), none] [] _ _
  refine z_e1 (pc1 := 60) (L1 := [some (.ref 5), none]) (S1 := [.int 0]) zd6_59 rfl rfl rfl ?_
  refine z_e1 (pc1 := 61) (L1 := [some (.ref 5), some (.int 0)]) (S1 := []) zd6_60 rfl rfl rfl ?_
  refine z_e1 (pc1 := 62) (L1 := [some (.ref 5), some (.int 0)]) (S1 := [.int 0]) zd6_61 rfl rfl rfl ?_
  refine z_e1 (pc1 := 65) (L1 := [some (.ref 5), some (.int 0)]) (S1 := [.int 160, .int 0]) zd6_62 rfl rfl rfl ?_
  refine z_ej (t := 96) (t2 := 68) zd6_65 rfl rfl ?_
  refine z_e1 (pc1 := 69) (L1 := [some (.ref 5), some (.int 0)]) (S1 := [.ref 5]) zd6_68 rfl rfl rfl ?_
  refine z_egf (fs := [.ref 6, .int 0, .int 0, .int 0, .int 0, .int 0, .int 0, .int 0, .ref 7, .ref 8, .int 0, .ref 9]) (v := .int 0) zd6_69 zf6_32 (z_gs1 (z_gn (by decide) (z_gn (by decide) (z_gn (by decide) (z_gn (by decide) (z_gn (by decide) (z_gn (by decide) (z_gn (by decide) (z_gn (by decide) (z_gn (by decide) (z_gn (by decide) (z_gs1 (z_gs1 (z_gs1 (z_gs1 (z_gs1 (z_gs1 (z_gs1 b5)))))))))))))))))) (by decide) (by decide) rfl ?_
  refine z_ez (t := 96) (t2 := 96) zd6_72 rfl rfl ?_
  refine z_e1 (pc1 := 97) (L1 := [some (.ref 5), some (.int 0)]) (S1 := [.ref 5]) zd6_96 rfl rfl rfl ?_
  refine z_egf (fs := [.ref 6, .int 0, .int 0, .int 0, .int 0, .int 0, .int 0, .int 0, .ref 7, .ref 8, .int 0, .ref 9]) (v := .int 0) zd6_97 zf6_32 (z_gs1 (z_gn (by decide) (z_gn (by decide) (z_gn (by decide) (z_gn (by decide) (z_gn (by decide) (z_gn (by decide) (z_gn (by decide) (z_gn (by decide) (z_gn (by decide) (z_gn (by decide) (z_gs1 (z_gs1 (z_gs1 (z_gs1 (z_gs1 (z_gs1 (z_gs1 b5)))))))))))))))))) (by decide) (by decide) rfl ?_
  refine z_eri zd6_100 zr6 ?_
  show z_ev _ 5 19 [some (.ref 4), none, none] [.int 0] _ _
  refine z_e1 (pc1 := 20) (L1 := [some (.ref 4), some (.int 0), none]) (S1 := []) zd5_19 rfl rfl rfl ?_
  refine z_e1 (pc1 := 21) (L1 := [some (.ref 4), some (.int 0), none]) (S1 := [.int 0]) zd5_20 rfl rfl rfl ?_
  refine z_ez (t := 31) (t2 := 24) zd5_21 rfl rfl ?_
  refine z_e1 (pc1 := 26) (L1 := [some (.ref 4), some (.int 0), none]) (S1 := [.int (-100)]) zd5_24 rfl rfl rfl ?_
  refine z_e1 (pc1 := 27) (L1 := [some (.ref 4), some (.int 0), none]) (S1 := [.int 0, .int (-100)]) zd5_26 rfl rfl rfl ?_
  refine z_e1 (pc1 := 28) (L1 := [some (.ref 4), some (.int 0), none]) (S1 := [.int (-100)]) zd5_27 rfl rfl rfl ?_
  refine z_e1 (pc1 := 42) (L1 := [some (.ref 4), some (.int 0), none]) (S1 := [.int (-100)]) zd5_28 rfl rfl rfl ?_
  refine z_e1 (pc1 := 43) (L1 := [some (.ref 4), some (.int 0), some (.int (-100))]) (S1 := []) zd5_42 rfl rfl rfl ?_
  refine z_e1 (pc1 := 44) (L1 := [some (.ref 4), some (.int 0), some (.int (-100))]) (S1 := [.ref 4]) zd5_43 rfl rfl rfl ?_
  refine z_egf (fs := [.ref 5, .ref 10, .ref 11, .int 0, .ref 12, .int 0, .ref 13, .ref 14, .ref 15, .ref 16, .ref 17, .ref 18, .null]) (v := .ref 5) zd5_44 zf5_10 (z_gn (by decide) (z_gn (by decide) (z_gn (by decide) (z_gn (by decide) (z_gn (by decide) (z_gn (by decide) (z_gn (by decide) (z_gn (by decide) (z_gn (by decide) (z_gn (by decide) (z_gn (by decide) (z_gn (by decide) (z_gn (by decide) (z_gn (by decide) (z_gn (by decide) (z_gn (by decide) (z_gn (by decide) (z_gn (by decide) b4)))))))))))))))))) (by decide) (by decide) rfl ?_
  refine z_e1 (pc1 := 48) (L1 := [some (.ref 4), some (.int 0), some (.int (-100))]) (S1 := [.int 0, .ref 5]) zd5_47 rfl rfl rfl ?_
  refine z_epf (fs := [.ref 6, .int 0, .int 0, .int 0, .int 0, .int 0, .int 0, .int 0, .ref 7, .ref 8, .int 0, .ref 9]) zd5_48 zf5_55 (z_gs1 (z_gn (by decide) (z_gn (by decide) (z_gn (by decide) (z_gn (by decide) (z_gn (by decide) (z_gn (by decide) (z_gn (by decide) (z_gn (by decide) (z_gn (by decide) (z_gn (by decide) (z_gs1 (z_gs1 (z_gs1 (z_gs1 (z_gs1 (z_gs1 (z_gs1 b5)))))))))))))))))) (by decide) (by decide) rfl (Nat.le_of_ble_eq_true rfl) (Or.inl rfl) ?_
  refine z_e1 (pc1 := 52) (L1 := [some (.ref 4), some (.int 0), some (.int (-100))]) (S1 := [.int (-100)]) zd5_51 rfl rfl rfl ?_
  refine z_eri zd5_52 zr5 ?_
  show z_ev _ 0 237 [some (.ref 0), some (.ref 4), some (.ref 19), some (.int 0)] [.int (-100)] _ _
  refine z_e1 (pc1 := 238) (L1 := [some (.ref 0), some (.ref 4), some (.ref 19), some (.int 0)]) (S1 := [.ref 19, .int (-100)]) zd0_237 rfl rfl rfl ?_
  refine z_ecV (vs := [.ref 19]) (r := [.int (-100)]) (L2 := [some (.ref 19), none, none, none, none, none]) zd0_238 zcV0_22 (Or.inl rfl) rfl (z_gn (by decide) (z_gn (by decide) (z_gn (by decide) (z_gn (by decide) (z_gn (by decide) (z_gn (by decide) (z_gn (by decide) (z_gn (by decide) (z_gn (by decide) (z_gn (by decide) (z_gn (by decide) (z_gn (by decide) (z_gn (by decide) (z_gn (by decide) (z_gn (by decide) (z_gn (by decide) (z_gn (by decide) (z_gn (by decide) (z_gn (by decide) b19))))))))))))))))))) (by decide) rfl rfl rfl (Nat.le_of_ble_eq_true rfl) zm190 (Nat.le_of_ble_eq_true rfl) rfl ?_
  refine z_e1 (pc1 := 1) (L1 := [some (.ref 19), none, none, none, none, none]) (S1 := [.ref 19]) zd190_0 rfl rfl rfl ?_
  refine z_egf (fs := [.ref 20, .int 0, .ref 21, .ref 22, .ref 23, .ref 24, .ref 25, .ref 26, .ref 27, .ref 28, .ref 29, .ref 30, .ref 31, .int 0, .ref 32, .ref 33, .ref 34, .ref 35, .ref 36, .ref 37, .ref 38, .int 0, .int 0, .int 0, .int 0, .int 0, .int 0, .int 0, .int 0, .int 0, .int 0, .ref 39, .ref 40, .ref 41, .int 0, .int 0, .ref 42, .ref 43, .ref 44, .ref 45, .ref 46, .int 0, .ref 47, .int 0, .int 0, .int 0, .ref 48, .int 0, .int 0, .ref 49, .ref 50, .ref 51, .ref 52]) (v := .int 0) zd190_1 zf190_110 (z_gn (by decide) (z_gn (by decide) (z_gn (by decide) (z_gn (by decide) (z_gn (by decide) (z_gn (by decide) (z_gn (by decide) (z_gn (by decide) (z_gn (by decide) (z_gn (by decide) (z_gn (by decide) (z_gn (by decide) (z_gn (by decide) (z_gn (by decide) (z_gn (by decide) (z_gn (by decide) (z_gn (by decide) (z_gn (by decide) (z_gn (by decide) b19))))))))))))))))))) (by decide) (by decide) rfl ?_
  refine z_e1 (pc1 := 6) (L1 := [some (.ref 19), none, none, none, none, none]) (S1 := [.int 8, .int 0]) zd190_4 rfl rfl rfl ?_
  refine z_ej (t := 12) (t2 := 12) zd190_6 rfl rfl ?_
  refine z_e1 (pc1 := 13) (L1 := [some (.ref 19), none, none, none, none, none]) (S1 := [.ref 19]) zd190_12 rfl rfl rfl ?_
  refine z_egf (fs := [.ref 20, .int 0, .ref 21, .ref 22, .ref 23, .ref 24, .ref 25, .ref 26, .ref 27, .ref 28, .ref 29, .ref 30, .ref 31, .int 0, .ref 32, .ref 33, .ref 34, .ref 35, .ref 36, .ref 37, .ref 38, .int 0, .int 0, .int 0, .int 0, .int 0, .int 0, .int 0, .int 0, .int 0, .int 0, .ref 39, .ref 40, .ref 41, .int 0, .int 0, .ref 42, .ref 43, .ref 44, .ref 45, .ref 46, .int 0, .ref 47, .int 0, .int 0, .int 0, .ref 48, .int 0, .int 0, .ref 49, .ref 50, .ref 51, .ref 52]) (v := .int 0) zd190_13 zf190_110 (z_gn (by decide) (z_gn (by decide) (z_gn (by decide) (z_gn (by decide) (z_gn (by decide) (z_gn (by decide) (z_gn (by decide) (z_gn (by decide) (z_gn (by decide) (z_gn (by decide) (z_gn (by decide) (z_gn (by decide) (z_gn (by decide) (z_gn (by decide) (z_gn (by decide) (z_gn (by decide) (z_gn (by decide) (z_gn (by decide) (z_gn (by decide) b19))))))))))))))))))) (by decide) (by decide) rfl ?_
  refine z_e1 (pc1 := 17) (L1 := [some (.ref 19), some (.int 0), none, none, none, none]) (S1 := []) zd190_16 rfl rfl rfl ?_
  refine z_e1 (pc1 := 18) (L1 := [some (.ref 19), some (.int 0), none, none, none, none]) (S1 := [.ref 19]) zd190_17 rfl rfl rfl ?_
  refine z_e1 (pc1 := 19) (L1 := [some (.ref 19), some (.int 0), none, none, none, none]) (S1 := [.int 0, .ref 19]) zd190_18 rfl rfl rfl ?_
  refine z_epf (fs := [.ref 20, .int 0, .ref 21, .ref 22, .ref 23, .ref 24, .ref 25, .ref 26, .ref 27, .ref 28, .ref 29, .ref 30, .ref 31, .int 0, .ref 32, .ref 33, .ref 34, .ref 35, .ref 36, .ref 37, .ref 38, .int 0, .int 0, .int 0, .int 0, .int 0, .int 0, .int 0, .int 0, .int 0, .int 0, .ref 39, .ref 40, .ref 41, .int 0, .int 0, .ref 42, .ref 43, .ref 44, .ref 45, .ref 46, .int 0, .ref 47, .int 0, .int 0, .int 0, .ref 48, .int 0, .int 0, .ref 49, .ref 50, .ref 51, .ref 52]) zd190_19 zf190_133 (z_gn (by decide) (z_gn (by decide) (z_gn (by decide) (z_gn (by decide) (z_gn (by decide) (z_gn (by decide) (z_gn (by decide) (z_gn (by decide) (z_gn (by decide) (z_gn (by decide) (z_gn (by decide) (z_gn (by decide) (z_gn (by decide) (z_gn (by decide) (z_gn (by decide) (z_gn (by decide) (z_gn (by decide) (z_gn (by decide) (z_gn (by decide) b19))))))))))))))))))) (by decide) (by decide) rfl (Nat.le_of_ble_eq_true rfl) (Or.inl rfl) ?_
  refine z_e1 (pc1 := 23) (L1 := [some (.ref 19), some (.int 0), none, none, none, none]) (S1 := [.ref 19]) zd190_22 rfl rfl rfl ?_
  refine z_e1 (pc1 := 24) (L1 := [some (.ref 19), some (.int 0), none, none, none, none]) (S1 := [.int 1, .ref 19]) zd190_23 rfl rfl rfl ?_
  refine z_epf (fs := [.ref 20, .int 0, .ref 21, .ref 22, .ref 23, .ref 24, .ref 25, .ref 26, .ref 27, .ref 28, .ref 29, .ref 30, .ref 31, .int 0, .ref 32, .ref 33, .ref 34, .ref 35, .ref 36, .ref 37, .ref 38, .int 0, .int 0, .int 0, .int 0, .int 0, .int 0, .int 0, .int 0, .int 0, .int 0, .ref 39, .ref 40, .ref 41, .int 0, .int 0, .ref 42, .ref 43, .ref 44, .ref 45, .ref 46, .int 0, .ref 47, .int 0, .int 0, .int 0, .ref 48, .int 0, .int 0, .ref 49, .ref 50, .ref 51, .ref 52]) zd190_24 zf190_129 (z_gs1 (z_gn (by decide) (z_gn (by decide) (z_gn (by decide) (z_gn (by decide) (z_gn (by decide) (z_gn (by decide) (z_gn (by decide) (z_gn (by decide) (z_gn (by decide) (z_gn (by decide) (z_gn (by decide) (z_gn (by decide) (z_gn (by decide) (z_gn (by decide) (z_gn (by decide) (z_gn (by decide) (z_gn (by decide) (z_gn (by decide) (z_gn (by decide) b19)))))))))))))))))))) (by decide) (by decide) rfl (Nat.le_of_ble_eq_true rfl) (Or.inl rfl) ?_
  refine z_e1 (pc1 := 28) (L1 := [some (.ref 19), some (.int 0), none, none, none, none]) (S1 := [.ref 19]) zd190_27 rfl rfl rfl ?_
  refine z_e1 (pc1 := 29) (L1 := [some (.ref 19), some (.int 0), none, none, none, none]) (S1 := [.int 0, .ref 19]) zd190_28 rfl rfl rfl ?_
  refine z_epf (fs := [.ref 20, .int 0, .ref 21, .ref 22, .ref 23, .ref 24, .ref 25, .ref 26, .ref 27, .ref 28, .ref 29, .ref 30, .ref 31, .int 0, .ref 32, .ref 33, .ref 34, .ref 35, .ref 36, .ref 37, .ref 38, .int 0, .int 0, .int 1, .int 0, .int 0, .int 0, .int 0, .int 0, .int 0, .int 0, .ref 39, .ref 40, .ref 41, .int 0, .int 0, .ref 42, .ref 43, .ref 44, .ref 45, .ref 46, .int 0, .ref 47, .int 0, .int 0, .int 0, .ref 48, .int 0, .int 0, .ref 49, .ref 50, .ref 51, .ref 52]) zd190_29 zf190_123 (z_gs1 (z_gs1 (z_gn (by decide) (z_gn (by decide) (z_gn (by decide) (z_gn (by decide) (z_gn (by decide) (z_gn (by decide) (z_gn (by decide) (z_gn (by decide) (z_gn (by decide) (z_gn (by decide) (z_gn (by decide) (z_gn (by decide) (z_gn (by decide) (z_gn (by decide) (z_gn (by decide) (z_gn (by decide) (z_gn (by decide) (z_gn (by decide) (z_gn (by decide) b19))))))))))))))))))))) (by decide) (by decide) rfl (Nat.le_of_ble_eq_true rfl) (Or.inl rfl) ?_
  refine z_e1 (pc1 := 33) (L1 := [some (.ref 19), some (.int 0), none, none, none, none]) (S1 := [.ref 19]) zd190_32 rfl rfl rfl ?_
  refine z_e1 (pc1 := 34) (L1 := [some (.ref 19), some (.int 0), none, none, none, none]) (S1 := [.ref 19, .ref 19]) zd190_33 rfl rfl rfl ?_
  refine z_egf (fs := [.ref 20, .int 0, .ref 21, .ref 22, .ref 23, .ref 24, .ref 25, .ref 26, .ref 27, .ref 28, .ref 29, .ref 30, .ref 31, .int 0, .ref 32, .ref 33, .ref 34, .ref 35, .ref 36, .ref 37, .ref 38, .int 0, .int 0, .int 1, .int 0, .int 0, .int 0, .int 0, .int 0, .int 0, .int 0, .ref 39, .ref 40, .ref 41, .int 0, .int 0, .ref 42, .ref 43, .ref 44, .ref 45, .ref 46, .int 0, .ref 47, .int 0, .int 0, .int 0, .ref 48, .int 0, .int 0, .ref 49, .ref 50, .ref 51, .ref 52]) (v := .int 0) zd190_34 zf190_120 (z_gs1 (z_gs1 (z_gs1 (z_gn (by decide) (z_gn (by decide) (z_gn (by decide) (z_gn (by decide) (z_gn (by decide) (z_gn (by decide) (z_gn (by decide) (z_gn (by decide) (z_gn (by decide) (z_gn (by decide) (z_gn (by decide) (z_gn (by decide) (z_gn (by decide) (z_gn (by decide) (z_gn (by decide) (z_gn (by decide) (z_gn (by decide) (z_gn (by decide) (z_gn (by decide) b19)))))))))))))))))))))) (by decide) (by decide) rfl ?_
  refine z_epf (fs := [.ref 20, .int 0, .ref 21, .ref 22, .ref 23, .ref 24, .ref 25, .ref 26, .ref 27, .ref 28, .ref 29, .ref 30, .ref 31, .int 0, .ref 32, .ref 33, .ref 34, .ref 35, .ref 36, .ref 37, .ref 38, .int 0, .int 0, .int 1, .int 0, .int 0, .int 0, .int 0, .int 0, .int 0, .int 0, .ref 39, .ref 40, .ref 41, .int 0, .int 0, .ref 42, .ref 43, .ref 44, .ref 45, .ref 46, .int 0, .ref 47, .int 0, .int 0, .int 0, .ref 48, .int 0, .int 0, .ref 49, .ref 50, .ref 51, .ref 52]) zd190_37 zf190_126 (z_gs1 (z_gs1 (z_gs1 (z_gn (by decide) (z_gn (by decide) (z_gn (by decide) (z_gn (by decide) (z_gn (by decide) (z_gn (by decide) (z_gn (by decide) (z_gn (by decide) (z_gn (by decide) (z_gn (by decide) (z_gn (by decide) (z_gn (by decide) (z_gn (by decide) (z_gn (by decide) (z_gn (by decide) (z_gn (by decide) (z_gn (by decide) (z_gn (by decide) (z_gn (by decide) b19)))))))))))))))))))))) (by decide) (by decide) rfl (Nat.le_of_ble_eq_true rfl) (Or.inl rfl) ?_
  refine z_e1 (pc1 := 41) (L1 := [some (.ref 19), some (.int 0), none, none, none, none]) (S1 := [.ref 19]) zd190_40 rfl rfl rfl ?_
  refine z_e1 (pc1 := 42) (L1 := [some (.ref 19), some (.int 0), none, none, none, none]) (S1 := [.int (-1), .ref 19]) zd190_41 rfl rfl rfl ?_
  refine z_epf (fs := [.ref 20, .int 0, .ref 21, .ref 22, .ref 23, .ref 24, .ref 25, .ref 26, .ref 27, .ref 28, .ref 29, .ref 30, .ref 31, .int 0, .ref 32, .ref 33, .ref 34, .ref 35, .ref 36, .ref 37, .ref 38, .int 0, .int 0, .int 1, .int 0, .int 0, .int 0, .int 0, .int 0, .int 0, .int 0, .ref 39, .ref 40, .ref 41, .int 0, .int 0, .ref 42, .ref 43, .ref 44, .ref 45, .ref 46, .int 0, .ref 47, .int 0, .int 0, .int 0, .ref 48, .int 0, .int 0, .ref 49, .ref 50, .ref 51, .ref 52]) zd190_42 zf190_136 (z_gs1 (z_gs1 (z_gs1 (z_gs1 (z_gn (by decide) (z_gn (by decide) (z_gn (by decide) (z_gn (by decide) (z_gn (by decide) (z_gn (by decide) (z_gn (by decide) (z_gn (by decide) (z_gn (by decide) (z_gn (by decide) (z_gn (by decide) (z_gn (by decide) (z_gn (by decide) (z_gn (by decide) (z_gn (by decide) (z_gn (by decide) (z_gn (by decide) (z_gn (by decide) (z_gn (by decide) b19))))))))))))))))))))))) (by decide) (by decide) rfl (Nat.le_of_ble_eq_true rfl) (Or.inl rfl) ?_
  refine z_e1 (pc1 := 46) (L1 := [some (.ref 19), some (.int 0), none, none, none, none]) (S1 := [.ref 19]) zd190_45 rfl rfl rfl ?_
  refine z_e1 (pc1 := 47) (L1 := [some (.ref 19), some (.int 0), none, none, none, none]) (S1 := [.int 0, .ref 19]) zd190_46 rfl rfl rfl ?_
  refine z_epf (fs := [.ref 20, .int 0, .ref 21, .ref 22, .ref 23, .ref 24, .ref 25, .ref 26, .ref 27, .ref 28, .ref 29, .ref 30, .ref 31, .int 0, .ref 32, .ref 33, .ref 34, .ref 35, .ref 36, .ref 37, .ref 38, .int 0, .int 0, .int 1, .int 0, .int 0, .int (-1), .int 0, .int 0, .int 0, .int 0, .ref 39, .ref 40, .ref 41, .int 0, .int 0, .ref 42, .ref 43, .ref 44, .ref 45, .ref 46, .int 0, .ref 47, .int 0, .int 0, .int 0, .ref 48, .int 0, .int 0, .ref 49, .ref 50, .ref 51, .ref 52]) zd190_47 zf190_160 (z_gs1 (z_gs1 (z_gs1 (z_gs1 (z_gs1 (z_gn (by decide) (z_gn (by decide) (z_gn (by decide) (z_gn (by decide) (z_gn (by decide) (z_gn (by decide) (z_gn (by decide) (z_gn (by decide) (z_gn (by decide) (z_gn (by decide) (z_gn (by decide) (z_gn (by decide) (z_gn (by decide) (z_gn (by decide) (z_gn (by decide) (z_gn (by decide) (z_gn (by decide) (z_gn (by decide) (z_gn (by decide) b19)))))))))))))))))))))))) (by decide) (by decide) rfl (Nat.le_of_ble_eq_true rfl) (Or.inl rfl) ?_
  refine z_e1 (pc1 := 51) (L1 := [some (.ref 19), some (.int 0), none, none, none, none]) (S1 := [.ref 19]) zd190_50 rfl rfl rfl ?_
  refine z_e1 (pc1 := 52) (L1 := [some (.ref 19), some (.int 0), none, none, none, none]) (S1 := [.int 0, .ref 19]) zd190_51 rfl rfl rfl ?_
  refine z_epf (fs := [.ref 20, .int 0, .ref 21, .ref 22, .ref 23, .ref 24, .ref 25, .ref 26, .ref 27, .ref 28, .ref 29, .ref 30, .ref 31, .int 0, .ref 32, .ref 33, .ref 34, .ref 35, .ref 36, .ref 37, .ref 38, .int 0, .int 0, .int 1, .int 0, .int 0, .int (-1), .int 0, .int 0, .int 0, .int 0, .ref 39, .ref 40, .ref 41, .int 0, .int 0, .ref 42, .ref 43, .ref 44, .ref 45, .ref 46, .int 0, .ref 47, .int 0, .int 0, .int 0, .ref 48, .int 0, .int 0, .ref 49, .ref 50, .ref 51, .ref 52]) zd190_52 zf190_183 (z_gs1 (z_gs1 (z_gs1 (z_gs1 (z_gs1 (z_gs1 (z_gn (by decide) (z_gn (by decide) (z_gn (by decide) (z_gn (by decide) (z_gn (by decide) (z_gn (by decide) (z_gn (by decide) (z_gn (by decide) (z_gn (by decide) (z_gn (by decide) (z_gn (by decide) (z_gn (by decide) (z_gn (by decide) (z_gn (by decide) (z_gn (by decide) (z_gn (by decide) (z_gn (by decide) (z_gn (by decide) (z_gn (by decide) b19))))))))))))))))))))))))) (by decide) (by decide) rfl (Nat.le_of_ble_eq_true rfl) (Or.inl rfl) ?_
  refine z_e1 (pc1 := 56) (L1 := [some (.ref 19), some (.int 0), none, none, none, none]) (S1 := [.ref 19]) zd190_55 rfl rfl rfl ?_
  refine z_egf (fs := [.ref 20, .int 0, .ref 21, .ref 22, .ref 23, .ref 24, .ref 25, .ref 26, .ref 27, .ref 28, .ref 29, .ref 30, .ref 31, .int 0, .ref 32, .ref 33, .ref 34, .ref 35, .ref 36, .ref 37, .ref 38, .int 0, .int 0, .int 1, .int 0, .int 0, .int (-1), .int 0, .int 0, .int 0, .int 0, .ref 39, .ref 40, .ref 41, .int 0, .int 0, .ref 42, .ref 43, .ref 44, .ref 45, .ref 46, .int 0, .ref 47, .int 0, .int 0, .int 0, .ref 48, .int 0, .int 0, .ref 49, .ref 50, .ref 51, .ref 52]) (v := .ref 25) zd190_56 zf190_25 (z_gs1 (z_gs1 (z_gs1 (z_gs1 (z_gs1 (z_gs1 (z_gs1 (z_gn (by decide) (z_gn (by decide) (z_gn (by decide) (z_gn (by decide) (z_gn (by decide) (z_gn (by decide) (z_gn (by decide) (z_gn (by decide) (z_gn (by decide) (z_gn (by decide) (z_gn (by decide) (z_gn (by decide) (z_gn (by decide) (z_gn (by decide) (z_gn (by decide) (z_gn (by decide) (z_gn (by decide) (z_gn (by decide) (z_gn (by decide) b19)))))))))))))))))))))))))) (by decide) (by decide) rfl ?_
  refine z_e1 (pc1 := 60) (L1 := [some (.ref 19), some (.int 0), none, none, none, none]) (S1 := [.int 0, .ref 25]) zd190_59 rfl rfl rfl ?_
  refine z_e1 (pc1 := 61) (L1 := [some (.ref 19), some (.int 0), none, none, none, none]) (S1 := [.int 0, .int 0, .ref 25]) zd190_60 rfl rfl rfl ?_
  refine z_eias zd190_61 (z_gn (by decide) (z_gn (by decide) (z_gn (by decide) (z_gn (by decide) (z_gn (by decide) (z_gn (by decide) (z_gn (by decide) (z_gn (by decide) (z_gn (by decide) (z_gn (by decide) (z_gn (by decide) (z_gn (by decide) (z_gn (by decide) (z_gn (by decide) (z_gn (by decide) (z_gn (by decide) (z_gn (by decide) (z_gn (by decide) (z_gn (by decide) (z_gn (by decide) (z_gn (by decide) (z_gn (by decide) (z_gn (by decide) (z_gn (by decide) (z_gn (by decide) (z_gn (by decide) b25)))))))))))))))))))))))))) (by decide) (by decide) ?_
  refine z_e1 (pc1 := 63) (L1 := [some (.ref 19), some (.int 0), none, none, none, none]) (S1 := [.ref 19]) zd190_62 rfl rfl rfl ?_
  refine z_egf (fs := [.ref 20, .int 0, .ref 21, .ref 22, .ref 23, .ref 24, .ref 25, .ref 26, .ref 27, .ref 28, .ref 29, .ref 30, .ref 31, .int 0, .ref 32, .ref 33, .ref 34, .ref 35, .ref 36, .ref 37, .ref 38, .int 0, .int 0, .int 1, .int 0, .int 0, .int (-1), .int 0, .int 0, .int 0, .int 0, .ref 39, .ref 40, .ref 41, .int 0, .int 0, .ref 42, .ref 43, .ref 44, .ref 45, .ref 46, .int 0, .ref 47, .int 0, .int 0, .int 0, .ref 48, .int 0, .int 0, .ref 49, .ref 50, .ref 51, .ref 52]) (v := .ref 27) zd190_63 zf190_31 (z_gn (by decide) (z_gs1 (z_gs1 (z_gs1 (z_gs1 (z_gs1 (z_gs1 (z_gs1 (z_gn (by decide) (z_gn (by decide) (z_gn (by decide) (z_gn (by decide) (z_gn (by decide) (z_gn (by decide) (z_gn (by decide) (z_gn (by decide) (z_gn (by decide) (z_gn (by decide) (z_gn (by decide) (z_gn (by decide) (z_gn (by decide) (z_gn (by decide) (z_gn (by decide) (z_gn (by decide) (z_gn (by decide) (z_gn (by decide) (z_gn (by decide) b19))))))))))))))))))))))))))) (by decide) (by decide) rfl ?_
  refine z_e1 (pc1 := 67) (L1 := [some (.ref 19), some (.int 0), none, none, none, none]) (S1 := [.int 0, .ref 27]) zd190_66 rfl rfl rfl ?_
  refine z_e1 (pc1 := 68) (L1 := [some (.ref 19), some (.int 0), none, none, none, none]) (S1 := [.int 0, .int 0, .ref 27]) zd190_67 rfl rfl rfl ?_
  refine z_eias zd190_68 (z_gn (by decide) (z_gn (by decide) (z_gn (by decide) (z_gn (by decide) (z_gn (by decide) (z_gn (by decide) (z_gn (by decide) (z_gn (by decide) (z_gn (by decide) (z_gn (by decide) (z_gn (by decide) (z_gn (by decide) (z_gn (by decide) (z_gn (by decide) (z_gn (by decide) (z_gn (by decide) (z_gn (by decide) (z_gn (by decide) (z_gn (by decide) (z_gn (by decide) (z_gn (by decide) (z_gn (by decide) (z_gn (by decide) (z_gn (by decide) (z_gn (by decide) (z_gn (by decide) (z_gn (by decide) b27))))))))))))))))))))))))))) (by decide) (by decide) ?_
  refine z_e1 (pc1 := 70) (L1 := [some (.ref 19), some (.int 0), none, none, none, none]) (S1 := [.ref 19]) zd190_69 rfl rfl rfl ?_
  refine z_egf (fs := [.ref 20, .int 0, .ref 21, .ref 22, .ref 23, .ref 24, .ref 25, .ref 26, .ref 27, .ref 28, .ref 29, .ref 30, .ref 31, .int 0, .ref 32, .ref 33, .ref 34, .ref 35, .ref 36, .ref 37, .ref 38, .int 0, .int 0, .int 1, .int 0, .int 0, .int (-1), .int 0, .int 0, .int 0, .int 0, .ref 39, .ref 40, .ref 41, .int 0, .int 0, .ref 42, .ref 43, .ref 44, .ref 45, .ref 46, .int 0, .ref 47, .int 0, .int 0, .int 0, .ref 48, .int 0, .int 0, .ref 49, .ref 50, .ref 51, .ref 52]) (v := .ref 28) zd190_70 zf190_34 (z_gn (by decide) (z_gn (by decide) (z_gs1 (z_gs1 (z_gs1 (z_gs1 (z_gs1 (z_gs1 (z_gs1 (z_gn (by decide) (z_gn (by decide) (z_gn (by decide) (z_gn (by decide) (z_gn (by decide) (z_gn (by decide) (z_gn (by decide) (z_gn (by decide) (z_gn (by decide) (z_gn (by decide) (z_gn (by decide) (z_gn (by decide) (z_gn (by decide) (z_gn (by decide) (z_gn (by decide) (z_gn (by decide) (z_gn (by decide) (z_gn (by decide) (z_gn (by decide) b19)))))))))))))))))))))))))))) (by decide) (by decide) rfl ?_
  refine z_e1 (pc1 := 74) (L1 := [some (.ref 19), some (.int 0), none, none, none, none]) (S1 := [.int 0, .ref 28]) zd190_73 rfl rfl rfl ?_
  refine z_e1 (pc1 := 75) (L1 := [some (.ref 19), some (.int 0), none, none, none, none]) (S1 := [.int 0, .int 0, .ref 28]) zd190_74 rfl rfl rfl ?_
  refine z_eias zd190_75 (z_gn (by decide) (z_gn (by decide) (z_gn (by decide) (z_gn (by decide) (z_gn (by decide) (z_gn (by decide) (z_gn (by decide) (z_gn (by decide) (z_gn (by decide) (z_gn (by decide) (z_gn (by decide) (z_gn (by decide) (z_gn (by decide) (z_gn (by decide) (z_gn (by decide) (z_gn (by decide) (z_gn (by decide) (z_gn (by decide) (z_gn (by decide) (z_gn (by decide) (z_gn (by decide) (z_gn (by decide) (z_gn (by decide) (z_gn (by decide) (z_gn (by decide) (z_gn (by decide) (z_gn (by decide) (z_gn (by decide) b28)))))))))))))))))))))))))))) (by decide) (by decide) ?_
  refine z_e1 (pc1 := 77) (L1 := [some (.ref 19), some (.int 0), none, none, none, none]) (S1 := [.ref 19]) zd190_76 rfl rfl rfl ?_
  refine z_ecV (vs := [.ref 19]) (r := []) (L2 := [some (.ref 19), none, none, none, none]) zd190_77 zcV190_196 (Or.inl rfl) rfl (z_gn (by decide) (z_gn (by decide) (z_gn (by decide) (z_gs1 (z_gs1 (z_gs1 (z_gs1 (z_gs1 (z_gs1 (z_gs1 (z_gn (by decide) (z_gn (by decide) (z_gn (by decide) (z_gn (by decide) (z_gn (by decide) (z_gn (by decide) (z_gn (by decide) (z_gn (by decide) (z_gn (by decide) (z_gn (by decide) (z_gn (by decide) (z_gn (by decide) (z_gn (by decide) (z_gn (by decide) (z_gn (by decide) (z_gn (by decide) (z_gn (by decide) (z_gn (by decide) (z_gn (by decide) b19))))))))))))))))))))))))))))) (by decide) rfl rfl rfl (Nat.le_of_ble_eq_true rfl) zm191 (Nat.le_of_ble_eq_true rfl) rfl ?_
  refine z_e1 (pc1 := 1) (L1 := [some (.ref 19), none, none, none, none]) (S1 := [.ref 19]) zd191_0 rfl rfl rfl ?_
  refine z_egf (fs := [.ref 20, .int 0, .ref 21, .ref 22, .ref 23, .ref 24, .ref 25, .ref 26, .ref 27, .ref 28, .ref 29, .ref 30, .ref 31, .int 0, .ref 32, .ref 33, .ref 34, .ref 35, .ref 36, .ref 37, .ref 38, .int 0, .int 0, .int 1, .int 0, .int 0, .int (-1), .int 0, .int 0, .int 0, .int 0, .ref 39, .ref 40, .ref 41, .int 0, .int 0, .ref 42, .ref 43, .ref 44, .ref 45, .ref 46, .int 0, .ref 47, .int 0, .int 0, .int 0, .ref 48, .int 0, .int 0, .ref 49, .ref 50, .ref 51, .ref 52]) (v := .ref 24) zd191_1 zf191_22 (z_gn (by decide) (z_gn (by decide) (z_gn (by decide) (z_gs1 (z_gs1 (z_gs1 (z_gs1 (z_gs1 (z_gs1 (z_gs1 (z_gn (by decide) (z_gn (by decide) (z_gn (by decide) (z_gn (by decide) (z_gn (by decide) (z_gn (by decide) (z_gn (by decide) (z_gn (by decide) (z_gn (by decide) (z_gn (by decide) (z_gn (by decide) (z_gn (by decide) (z_gn (by decide) (z_gn (by decide) (z_gn (by decide) (z_gn (by decide) (z_gn (by decide) (z_gn (by decide) (z_gn (by decide) b19))))))))))))))))))))))))))))) (by decide) (by decide) rfl ?_
  refine z_e1 (pc1 := 5) (L1 := [some (.ref 19), none, none, none, none]) (S1 := [.ref 19, .ref 24]) zd191_4 rfl rfl rfl ?_
  refine z_egf (fs := [.ref 20, .int 0, .ref 21, .ref 22, .ref 23, .ref 24, .ref 25, .ref 26, .ref 27, .ref 28, .ref 29, .ref 30, .ref 31, .int 0, .ref 32, .ref 33, .ref 34, .ref 35, .ref 36, .ref 37, .ref 38, .int 0, .int 0, .int 1, .int 0, .int 0, .int (-1), .int 0, .int 0, .int 0, .int 0, .ref 39, .ref 40, .ref 41, .int 0, .int 0, .ref 42, .ref 43, .ref 44, .ref 45, .ref 46, .int 0, .ref 47, .int 0, .int 0, .int 0, .ref 48, .int 0, .int 0, .ref 49, .ref 50, .ref 51, .ref 52]) (v := .int 0) zd191_5 zf191_133 (z_gn (by decide) (z_gn (by decide) (z_gn (by decide) (z_gs1 (z_gs1 (z_gs1 (z_gs1 (z_gs1 (z_gs1 (z_gs1 (z_gn (by decide) (z_gn (by decide) (z_gn (by decide) (z_gn (by decide) (z_gn (by decide) (z_gn (by decide) (z_gn (by decide) (z_gn (by decide) (z_gn (by decide) (z_gn (by decide) (z_gn (by decide) (z_gn (by decide) (z_gn (by decide) (z_gn (by decide) (z_gn (by decide) (z_gn (by decide) (z_gn (by decide) (z_gn (by decide) (z_gn (by decide) b19))))))))))))))))))))))))))))) (by decide) (by decide) rfl ?_
  refine z_e1 (pc1 := 9) (L1 := [some (.ref 19), none, none, none, none]) (S1 := [.int 0, .int 0, .ref 24]) zd191_8 rfl rfl rfl ?_
  refine z_eias zd191_9 (z_gn (by decide) (z_gn (by decide) (z_gn (by decide) (z_gn (by decide) (z_gn (by decide) (z_gn (by decide) (z_gn (by decide) (z_gn (by decide) (z_gn (by decide) (z_gn (by decide) (z_gn (by decide) (z_gn (by decide) (z_gn (by decide) (z_gn (by decide) (z_gn (by decide) (z_gn (by decide) (z_gn (by decide) (z_gn (by decide) (z_gn (by decide) (z_gn (by decide) (z_gn (by decide) (z_gn (by decide) (z_gn (by decide) (z_gn (by decide) (z_gn (by decide) (z_gn (by decide) (z_gn (by decide) (z_gn (by decide) (z_gn (by decide) b24))))))))))))))))))))))))))))) (by decide) (by decide) ?_
  refine z_e1 (pc1 := 11) (L1 := [some (.ref 19), none, none, none, none]) (S1 := [.ref 19]) zd191_10 rfl rfl rfl ?_
  refine z_e1 (pc1 := 13) (L1 := [some (.ref 19), none, none, none, none]) (S1 := [.int 113, .ref 19]) zd191_11 rfl rfl rfl ?_
  refine z_ecV (vs := [.ref 19, .int 113]) (r := []) (L2 := [some (.ref 19), some (.int 113)]) zd191_13 zcV191_147 (Or.inl rfl) rfl (z_gn (by decide) (z_gn (by decide) (z_gn (by decide) (z_gn (by decide) (z_gs1 (z_gs1 (z_gs1 (z_gs1 (z_gs1 (z_gs1 (z_gs1 (z_gn (by decide) (z_gn (by decide) (z_gn (by decide) (z_gn (by decide) (z_gn (by decide) (z_gn (by decide) (z_gn (by decide) (z_gn (by decide) (z_gn (by decide) (z_gn (by decide) (z_gn (by decide) (z_gn (by decide) (z_gn (by decide) (z_gn (by decide) (z_gn (by decide) (z_gn (by decide) (z_gn (by decide) (z_gn (by decide) (z_gn (by decide) b19)))))))))))))))))))))))))))))) (by decide) rfl rfl rfl (Nat.le_of_ble_eq_true rfl) zm192 (Nat.le_of_ble_eq_true rfl) rfl ?_
  refine z_e1 (pc1 := 1) (L1 := [some (.ref 19), some (.int 113)]) (S1 := [.ref 19]) zd192_0 rfl rfl rfl ?_
  refine z_egf (fs := [.ref 20, .int 0, .ref 21, .ref 22, .ref 23, .ref 24, .ref 25, .ref 26, .ref 27, .ref 28, .ref 29, .ref 30, .ref 31, .int 0, .ref 32, .ref 33, .ref 34, .ref 35, .ref 36, .ref 37, .ref 38, .int 0, .int 0, .int 1, .int 0, .int 0, .int (-1), .int 0, .int 0, .int 0, .int 0, .ref 39, .ref 40, .ref 41, .int 0, .int 0, .ref 42, .ref 43, .ref 44, .ref 45, .ref 46, .int 0, .ref 47, .int 0, .int 0, .int 0, .ref 48, .int 0, .int 0, .ref 49, .ref 50, .ref 51, .ref 52]) (v := .int (-1)) zd192_1 zf192_136 (z_gn (by decide) (z_gn (by decide) (z_gn (by decide) (z_gn (by decide) (z_gs1 (z_gs1 (z_gs1 (z_gs1 (z_gs1 (z_gs1 (z_gs1 (z_gn (by decide) (z_gn (by decide) (z_gn (by decide) (z_gn (by decide) (z_gn (by decide) (z_gn (by decide) (z_gn (by decide) (z_gn (by decide) (z_gn (by decide) (z_gn (by decide) (z_gn (by decide) (z_gn (by decide) (z_gn (by decide) (z_gn (by decide) (z_gn (by decide) (z_gn (by decide) (z_gn (by decide) (z_gn (by decide) (z_gn (by decide) b19)))))))))))))))))))))))))))))) (by decide) (by decide) rfl ?_
  refine z_ez (t := 15) (t2 := 7) zd192_4 rfl rfl ?_
  refine z_e1 (pc1 := 8) (L1 := [some (.ref 19), some (.int 113)]) (S1 := [.ref 19]) zd192_7 rfl rfl rfl ?_
  refine z_ecV (vs := [.ref 19]) (r := []) (L2 := [some (.ref 19)]) zd192_8 zcV192_139 (Or.inl rfl) rfl (z_gn (by decide) (z_gn (by decide) (z_gn (by decide) (z_gn (by decide) (z_gs1 (z_gs1 (z_gs1 (z_gs1 (z_gs1 (z_gs1 (z_gs1 (z_gn (by decide) (z_gn (by decide) (z_gn (by decide) (z_gn (by decide) (z_gn (by decide) (z_gn (by decide) (z_gn (by decide) (z_gn (by decide) (z_gn (by decide) (z_gn (by decide) (z_gn (by decide) (z_gn (by decide) (z_gn (by decide) (z_gn (by decide) (z_gn (by decide) (z_gn (by decide) (z_gn (by decide) (z_gn (by decide) (z_gn (by decide) b19)))))))))))))))))))))))))))))) (by decide) rfl rfl rfl (Nat.le_of_ble_eq_true rfl) zm193 (Nat.le_of_ble_eq_true rfl) rfl ?_
  refine z_e1 (pc1 := 1) (L1 := [some (.ref 19)]) (S1 := [.ref 19]) zd193_0 rfl rfl rfl ?_
  refine z_egf (fs := [.ref 20, .int 0, .ref 21, .ref 22, .ref 23, .ref 24, .ref 25, .ref 26, .ref 27, .ref 28, .ref 29, .ref 30, .ref 31, .int 0, .ref 32, .ref 33, .ref 34, .ref 35, .ref 36, .ref 37, .ref 38, .int 0, .int 0, .int 1, .int 0, .int 0, .int (-1), .int 0, .int 0, .int 0, .int 0, .ref 39, .ref 40, .ref 41, .int 0, .int 0, .ref 42, .ref 43, .ref 44, .ref 45, .ref 46, .int 0, .ref 47, .int 0, .int 0, .int 0, .ref 48, .int 0, .int 0, .ref 49, .ref 50, .ref 51, .ref 52]) (v := .int 0) zd193_1 zf193_123 (z_gn (by decide) (z_gn (by decide) (z_gn (by decide) (z_gn (by decide) (z_gs1 (z_gs1 (z_gs1 (z_gs1 (z_gs1 (z_gs1 (z_gs1 (z_gn (by decide) (z_gn (by decide) (z_gn (by decide) (z_gn (by decide) (z_gn (by decide) (z_gn (by decide) (z_gn (by decide) (z_gn (by decide) (z_gn (by decide) (z_gn (by decide) (z_gn (by decide) (z_gn (by decide) (z_gn (by decide) (z_gn (by decide) (z_gn (by decide) (z_gn (by decide) (z_gn (by decide) (z_gn (by decide) (z_gn (by decide) b19)))))))))))))))))))))))))))))) (by decide) (by decide) rfl ?_
  refine z_e1 (pc1 := 5) (L1 := [some (.ref 19)]) (S1 := [.ref 19, .int 0]) zd193_4 rfl rfl rfl ?_
  refine z_egf (fs := [.ref 20, .int 0, .ref 21, .ref 22, .ref 23, .ref 24, .ref 25, .ref 26, .ref 27, .ref 28, .ref 29, .ref 30, .ref 31, .int 0, .ref 32, .ref 33, .ref 34, .ref 35, .ref 36, .ref 37, .ref 38, .int 0, .int 0, .int 1, .int 0, .int 0, .int (-1), .int 0, .int 0, .int 0, .int 0, .ref 39, .ref 40, .ref 41, .int 0, .int 0, .ref 42, .ref 43, .ref 44, .ref 45, .ref 46, .int 0, .ref 47, .int 0, .int 0, .int 0, .ref 48, .int 0, .int 0, .ref 49, .ref 50, .ref 51, .ref 52]) (v := .int 0) zd193_5 zf193_126 (z_gn (by decide) (z_gn (by decide) (z_gn (by decide) (z_gn (by decide) (z_gs1 (z_gs1 (z_gs1 (z_gs1 (z_gs1 (z_gs1 (z_gs1 (z_gn (by decide) (z_gn (by decide) (z_gn (by decide) (z_gn (by decide) (z_gn (by decide) (z_gn (by decide) (z_gn (by decide) (z_gn (by decide) (z_gn (by decide) (z_gn (by decide) (z_gn (by decide) (z_gn (by decide) (z_gn (by decide) (z_gn (by decide) (z_gn (by decide) (z_gn (by decide) (z_gn (by decide) (z_gn (by decide) (z_gn (by decide) b19)))))))))))))))))))))))))))))) (by decide) (by decide) rfl ?_
  refine z_ej (t := 51) (t2 := 51) zd193_8 rfl rfl ?_
  refine z_e1 (pc1 := 52) (L1 := [some (.ref 19)]) (S1 := [.int 0]) zd193_51 rfl rfl rfl ?_
  refine z_eri zd193_52 zr193 ?_
  show z_ev _ 192 11 [some (.ref 19), some (.int 113)] [.int 0] _ _
  refine z_e1 (pc1 := 12) (L1 := [some (.ref 19), some (.int 113)]) (S1 := [.int 113, .int 0]) zd192_11 rfl rfl rfl ?_
  refine z_ej (t := 17) (t2 := 15) zd192_12 rfl rfl ?_
  refine z_e1 (pc1 := 16) (L1 := [some (.ref 19), some (.int 113)]) (S1 := [.int 0]) zd192_15 rfl rfl rfl ?_
  refine z_erz zd192_16 zr192 (by decide) ?_
  show z_ev _ 191 16 [some (.ref 19), none, none, none, none] [.int 0] _ _
  refine z_ez (t := 28) (t2 := 28) zd191_16 rfl rfl ?_
  refine z_e1 (pc1 := 29) (L1 := [some (.ref 19), none, none, none, none]) (S1 := [.ref 19]) zd191_28 rfl rfl rfl ?_
  refine z_ecV (vs := [.ref 19]) (r := []) (L2 := [some (.ref 19)]) zd191_29 zcV191_163 (Or.inl rfl) rfl (z_gn (by decide) (z_gn (by decide) (z_gn (by decide) (z_gn (by decide) (z_gs1 (z_gs1 (z_gs1 (z_gs1 (z_gs1 (z_gs1 (z_gs1 (z_gn (by decide) (z_gn (by decide) (z_gn (by decide) (z_gn (by decide) (z_gn (by decide) (z_gn (by decide) (z_gn (by decide) (z_gn (by decide) (z_gn (by decide) (z_gn (by decide) (z_gn (by decide) (z_gn (by decide) (z_gn (by decide) (z_gn (by decide) (z_gn (by decide) (z_gn (by decide) (z_gn (by decide) (z_gn (by decide) (z_gn (by decide) b19)))))))))))))))))))))))))))))) (by decide) rfl rfl rfl (Nat.le_of_ble_eq_true rfl) zm194 (Nat.le_of_ble_eq_true rfl) rfl ?_
  refine z_e1 (pc1 := 1) (L1 := [some (.ref 19)]) (S1 := [.ref 19]) zd194_0 rfl rfl rfl ?_
  refine z_e1 (pc1 := 2) (L1 := [some (.ref 19)]) (S1 := [.ref 19, .ref 19]) zd194_1 rfl rfl rfl ?_
  refine z_egf (fs := [.ref 20, .int 0, .ref 21, .ref 22, .ref 23, .ref 24, .ref 25, .ref 26, .ref 27, .ref 28, .ref 29, .ref 30, .ref 31, .int 0, .ref 32, .ref 33, .ref 34, .ref 35, .ref 36, .ref 37, .ref 38, .int 0, .int 0, .int 1, .int 0, .int 0, .int (-1), .int 0, .int 0, .int 0, .int 0, .ref 39, .ref 40, .ref 41, .int 0, .int 0, .ref 42, .ref 43, .ref 44, .ref 45, .ref 46, .int 0, .ref 47, .int 0, .int 0, .int 0, .ref 48, .int 0, .int 0, .ref 49, .ref 50, .ref 51, .ref 52]) (v := .int (-1)) zd194_2 zf194_136 (z_gn (by decide) (z_gn (by decide) (z_gn (by decide) (z_gn (by decide) (z_gs1 (z_gs1 (z_gs1 (z_gs1 (z_gs1 (z_gs1 (z_gs1 (z_gn (by decide) (z_gn (by decide) (z_gn (by decide) (z_gn (by decide) (z_gn (by decide) (z_gn (by decide) (z_gn (by decide) (z_gn (by decide) (z_gn (by decide) (z_gn (by decide) (z_gn (by decide) (z_gn (by decide) (z_gn (by decide) (z_gn (by decide) (z_gn (by decide) (z_gn (by decide) (z_gn (by decide) (z_gn (by decide) (z_gn (by decide) b19)))))))))))))))))))))))))))))) (by decide) (by decide) rfl ?_
  refine z_ez (t := 15) (t2 := 8) zd194_5 rfl rfl ?_
  refine z_e1 (pc1 := 9) (L1 := [some (.ref 19)]) (S1 := [.ref 19, .ref 19]) zd194_8 rfl rfl rfl ?_
  refine z_egf (fs := [.ref 20, .int 0, .ref 21, .ref 22, .ref 23, .ref 24, .ref 25, .ref 26, .ref 27, .ref 28, .ref 29, .ref 30, .ref 31, .int 0, .ref 32, .ref 33, .ref 34, .ref 35, .ref 36, .ref 37, .ref 38, .int 0, .int 0, .int 1, .int 0, .int 0, .int (-1), .int 0, .int 0, .int 0, .int 0, .ref 39, .ref 40, .ref 41, .int 0, .int 0, .ref 42, .ref 43, .ref 44, .ref 45, .ref 46, .int 0, .ref 47, .int 0, .int 0, .int 0, .ref 48, .int 0, .int 0, .ref 49, .ref 50, .ref 51, .ref 52]) (v := .int 0) zd194_9 zf194_123 (z_gn (by decide) (z_gn (by decide) (z_gn (by decide) (z_gn (by decide) (z_gs1 (z_gs1 (z_gs1 (z_gs1 (z_gs1 (z_gs1 (z_gs1 (z_gn (by decide) (z_gn (by decide) (z_gn (by decide) (z_gn (by decide) (z_gn (by decide) (z_gn (by decide) (z_gn (by decide) (z_gn (by decide) (z_gn (by decide) (z_gn (by decide) (z_gn (by decide) (z_gn (by decide) (z_gn (by decide) (z_gn (by decide) (z_gn (by decide) (z_gn (by decide) (z_gn (by decide) (z_gn (by decide) (z_gn (by decide) b19)))))))))))))))))))))))))))))) (by decide) (by decide) rfl ?_
  refine z_e1 (pc1 := 19) (L1 := [some (.ref 19)]) (S1 := [.int 0, .ref 19]) zd194_12 rfl rfl rfl ?_
  refine z_epf (fs := [.ref 20, .int 0, .ref 21, .ref 22, .ref 23, .ref 24, .ref 25, .ref 26, .ref 27, .ref 28, .ref 29, .ref 30, .ref 31, .int 0, .ref 32, .ref 33, .ref 34, .ref 35, .ref 36, .ref 37, .ref 38, .int 0, .int 0, .int 1, .int 0, .int 0, .int (-1), .int 0, .int 0, .int 0, .int 0, .ref 39, .ref 40, .ref 41, .int 0, .int 0, .ref 42, .ref 43, .ref 44, .ref 45, .ref 46, .int 0, .ref 47, .int 0, .int 0, .int 0, .ref 48, .int 0, .int 0, .ref 49, .ref 50, .ref 51, .ref 52]) zd194_19 zf194_136 (z_gn (by decide) (z_gn (by decide) (z_gn (by decide) (z_gn (by decide) (z_gs1 (z_gs1 (z_gs1 (z_gs1 (z_gs1 (z_gs1 (z_gs1 (z_gn (by decide) (z_gn (by decide) (z_gn (by decide) (z_gn (by decide) (z_gn (by decide) (z_gn (by decide) (z_gn (by decide) (z_gn (by decide) (z_gn (by decide) (z_gn (by decide) (z_gn (by decide) (z_gn (by decide) (z_gn (by decide) (z_gn (by decide) (z_gn (by decide) (z_gn (by decide) (z_gn (by decide) (z_gn (by decide) (z_gn (by decide) b19)))))))))))))))))))))))))))))) (by decide) (by decide) rfl (Nat.le_of_ble_eq_true rfl) (Or.inl rfl) ?_
  refine z_e1 (pc1 := 23) (L1 := [some (.ref 19)]) (S1 := [.int 0]) zd194_22 rfl rfl rfl ?_
  refine z_erz zd194_23 zr194 (by decide) ?_
  show z_ev _ 191 32 [some (.ref 19), none, none, none, none] [.int 0] _ _
  refine z_e1 (pc1 := 33) (L1 := [some (.ref 19), some (.int 0), none, none, none]) (S1 := []) zd191_32 rfl rfl rfl ?_
  refine z_erv zd191_33 zr191 ?_
  show z_ev _ 190 80 [some (.ref 19), some (.int 0), none, none, none, none] [] _ _
  refine z_e1 (pc1 := 81) (L1 := [some (.ref 19), some (.int 0), none, none, none, none]) (S1 := [.ref 19]) zd190_80 rfl rfl rfl ?_
  refine z_e1 (pc1 := 83) (L1 := [some (.ref 19), some (.int 0), none, none, none, none]) (S1 := [.int 59, .ref 19]) zd190_81 rfl rfl rfl ?_
  refine z_ecV (vs := [.ref 19, .int 59]) (r := []) (L2 := [some (.ref 19), some (.int 59)]) zd190_83 zcV190_147 (Or.inl rfl) rfl (z_gs1 (z_gn (by decide) (z_gn (by decide) (z_gn (by decide) (z_gn (by decide) (z_gs1 (z_gs1 (z_gs1 (z_gs1 (z_gs1 (z_gs1 (z_gs1 (z_gn (by decide) (z_gn (by decide) (z_gn (by decide) (z_gn (by decide) (z_gn (by decide) (z_gn (by decide) (z_gn (by decide) (z_gn (by decide) (z_gn (by decide) (z_gn (by decide) (z_gn (by decide) (z_gn (by decide) (z_gn (by decide) (z_gn (by decide) (z_gn (by decide) (z_gn (by decide) (z_gn (by decide) (z_gn (by decide) (z_gn (by decide) b19))))))))))))))))))))))))))))))) (by decide) rfl rfl rfl (Nat.le_of_ble_eq_true rfl) zm192 (Nat.le_of_ble_eq_true rfl) rfl ?_
  refine z_e1 (pc1 := 1) (L1 := [some (.ref 19), some (.int 59)]) (S1 := [.ref 19]) zd192_0 rfl rfl rfl ?_
  refine z_egf (fs := [.ref 20, .int 0, .ref 21, .ref 22, .ref 23, .ref 24, .ref 25, .ref 26, .ref 27, .ref 28, .ref 29, .ref 30, .ref 31, .int 0, .ref 32, .ref 33, .ref 34, .ref 35, .ref 36, .ref 37, .ref 38, .int 0, .int 0, .int 1, .int 0, .int 0, .int 0, .int 0, .int 0, .int 0, .int 0, .ref 39, .ref 40, .ref 41, .int 0, .int 0, .ref 42, .ref 43, .ref 44, .ref 45, .ref 46, .int 0, .ref 47, .int 0, .int 0, .int 0, .ref 48, .int 0, .int 0, .ref 49, .ref 50, .ref 51, .ref 52]) (v := .int 0) zd192_1 zf192_136 (z_gs1 (z_gn (by decide) (z_gn (by decide) (z_gn (by decide) (z_gn (by decide) (z_gs1 (z_gs1 (z_gs1 (z_gs1 (z_gs1 (z_gs1 (z_gs1 (z_gn (by decide) (z_gn (by decide) (z_gn (by decide) (z_gn (by decide) (z_gn (by decide) (z_gn (by decide) (z_gn (by decide) (z_gn (by decide) (z_gn (by decide) (z_gn (by decide) (z_gn (by decide) (z_gn (by decide) (z_gn (by decide) (z_gn (by decide) (z_gn (by decide) (z_gn (by decide) (z_gn (by decide) (z_gn (by decide) (z_gn (by decide) b19))))))))))))))))))))))))))))))) (by decide) (by decide) rfl ?_
  refine z_ez (t := 15) (t2 := 15) zd192_4 rfl rfl ?_
  refine z_e1 (pc1 := 16) (L1 := [some (.ref 19), some (.int 59)]) (S1 := [.int 0]) zd192_15 rfl rfl rfl ?_
  refine z_erz zd192_16 zr192 (by decide) ?_
  show z_ev _ 190 86 [some (.ref 19), some (.int 0), none, none, none, none] [.int 0] _ _
  refine z_ez (t := 96) (t2 := 96) zd190_86 rfl rfl ?_
  refine z_e1 (pc1 := 97) (L1 := [some (.ref 19), some (.int 0), none, none, none, none]) (S1 := [.ref 19]) zd190_96 rfl rfl rfl ?_
  refine z_egf (fs := [.ref 20, .int 0, .ref 21, .ref 22, .ref 23, .ref 24, .ref 25, .ref 26, .ref 27, .ref 28, .ref 29, .ref 30, .ref 31, .int 0, .ref 32, .ref 33, .ref 34, .ref 35, .ref 36, .ref 37, .ref 38, .int 0, .int 0, .int 1, .int 0, .int 0, .int 0, .int 0, .int 0, .int 0, .int 0, .ref 39, .ref 40, .ref 41, .int 0, .int 0, .ref 42, .ref 43, .ref 44, .ref 45, .ref 46, .int 0, .ref 47, .int 0, .int 0, .int 0, .ref 48, .int 0, .int 0, .ref 49, .ref 50, .ref 51, .ref 52]) (v := .int 0) zd190_97 zf190_136 (z_gs1 (z_gn (by decide) (z_gn (by decide) (z_gn (by decide) (z_gn (by decide) (z_gs1 (z_gs1 (z_gs1 (z_gs1 (z_gs1 (z_gs1 (z_gs1 (z_gn (by decide) (z_gn (by decide) (z_gn (by decide) (z_gn (by decide) (z_gn (by decide) (z_gn (by decide) (z_gn (by decide) (z_gn (by decide) (z_gn (by decide) (z_gn (by decide) (z_gn (by decide) (z_gn (by decide) (z_gn (by decide) (z_gn (by decide) (z_gn (by decide) (z_gn (by decide) (z_gn (by decide) (z_gn (by decide) (z_gn (by decide) b19))))))))))))))))))))))))))))))) (by decide) (by decide) rfl ?_
  refine z_ez (t := 119) (t2 := 119) zd190_100 rfl rfl ?_
  refine z_e1 (pc1 := 120) (L1 := [some (.ref 19), some (.int 0), none, none, none, none]) (S1 := [.ref 19]) zd190_119 rfl rfl rfl ?_
  refine z_egf (fs := [.ref 20, .int 0, .ref 21, .ref 22, .ref 23, .ref 24, .ref 25, .ref 26, .ref 27, .ref 28, .ref 29, .ref 30, .ref 31, .int 0, .ref 32, .ref 33, .ref 34, .ref 35, .ref 36, .ref 37, .ref 38, .int 0, .int 0, .int 1, .int 0, .int 0, .int 0, .int 0, .int 0, .int 0, .int 0, .ref 39, .ref 40, .ref 41, .int 0, .int 0, .ref 42, .ref 43, .ref 44, .ref 45, .ref 46, .int 0, .ref 47, .int 0, .int 0, .int 0, .ref 48, .int 0, .int 0, .ref 49, .ref 50, .ref 51, .ref 52]) (v := .int 0) zd190_120 zf190_120 (z_gs1 (z_gn (by decide) (z_gn (by decide) (z_gn (by decide) (z_gn (by decide) (z_gs1 (z_gs1 (z_gs1 (z_gs1 (z_gs1 (z_gs1 (z_gs1 (z_gn (by decide) (z_gn (by decide) (z_gn (by decide) (z_gn (by decide) (z_gn (by decide) (z_gn (by decide) (z_gn (by decide) (z_gn (by decide) (z_gn (by decide) (z_gn (by decide) (z_gn (by decide) (z_gn (by decide) (z_gn (by decide) (z_gn (by decide) (z_gn (by decide) (z_gn (by decide) (z_gn (by decide) (z_gn (by decide) (z_gn (by decide) b19))))))))))))))))))))))))))))))) (by decide) (by decide) rfl ?_
  refine z_e1 (pc1 := 124) (L1 := [some (.ref 19), some (.int 0), some (.int 0), none, none, none]) (S1 := []) zd190_123 rfl rfl rfl ?_
  refine z_e1 (pc1 := 125) (L1 := [some (.ref 19), some (.int 0), some (.int 0), none, none, none]) (S1 := [.ref 19]) zd190_124 rfl rfl rfl ?_
  refine z_e1 (pc1 := 126) (L1 := [some (.ref 19), some (.int 0), some (.int 0), none, none, none]) (S1 := [.int 0, .ref 19]) zd190_125 rfl rfl rfl ?_
  refine z_epf (fs := [.ref 20, .int 0, .ref 21, .ref 22, .ref 23, .ref 24, .ref 25, .ref 26, .ref 27, .ref 28, .ref 29, .ref 30, .ref 31, .int 0, .ref 32, .ref 33, .ref 34, .ref 35, .ref 36, .ref 37, .ref 38, .int 0, .int 0, .int 1, .int 0, .int 0, .int 0, .int 0, .int 0, .int 0, .int 0, .ref 39, .ref 40, .ref 41, .int 0, .int 0, .ref 42, .ref 43, .ref 44, .ref 45, .ref 46, .int 0, .ref 47, .int 0, .int 0, .int 0, .ref 48, .int 0, .int 0, .ref 49, .ref 50, .ref 51, .ref 52]) zd190_126 zf190_120 (z_gs1 (z_gn (by decide) (z_gn (by decide) (z_gn (by decide) (z_gn (by decide) (z_gs1 (z_gs1 (z_gs1 (z_gs1 (z_gs1 (z_gs1 (z_gs1 (z_gn (by decide) (z_gn (by decide) (z_gn (by decide) (z_gn (by decide) (z_gn (by decide) (z_gn (by decide) (z_gn (by decide) (z_gn (by decide) (z_gn (by decide) (z_gn (by decide) (z_gn (by decide) (z_gn (by decide) (z_gn (by decide) (z_gn (by decide) (z_gn (by decide) (z_gn (by decide) (z_gn (by decide) (z_gn (by decide) (z_gn (by decide) b19))))))))))))))))))))))))))))))) (by decide) (by decide) rfl (Nat.le_of_ble_eq_true rfl) (Or.inl rfl) ?_
  refine z_e1 (pc1 := 130) (L1 := [some (.ref 19), some (.int 0), some (.int 0), none, none, none]) (S1 := [.ref 19]) zd190_129 rfl rfl rfl ?_
  refine z_egf (fs := [.ref 20, .int 0, .ref 21, .ref 22, .ref 23, .ref 24, .ref 25, .ref 26, .ref 27, .ref 28, .ref 29, .ref 30, .ref 31, .int 0, .ref 32, .ref 33, .ref 34, .ref 35, .ref 36, .ref 37, .ref 38, .int 0, .int 0, .int 1, .int 0, .int 0, .int 0, .int 0, .int 0, .int 0, .int 0, .ref 39, .ref 40, .ref 41, .int 0, .int 0, .ref 42, .ref 43, .ref 44, .ref 45, .ref 46, .int 0, .ref 47, .int 0, .int 0, .int 0, .ref 48, .int 0, .int 0, .ref 49, .ref 50, .ref 51, .ref 52]) (v := .int 0) zd190_130 zf190_136 (z_gs1 (z_gs1 (z_gn (by decide) (z_gn (by decide) (z_gn (by decide) (z_gn (by decide) (z_gs1 (z_gs1 (z_gs1 (z_gs1 (z_gs1 (z_gs1 (z_gs1 (z_gn (by decide) (z_gn (by decide) (z_gn (by decide) (z_gn (by decide) (z_gn (by decide) (z_gn (by decide) (z_gn (by decide) (z_gn (by decide) (z_gn (by decide) (z_gn (by decide) (z_gn (by decide) (z_gn (by decide) (z_gn (by decide) (z_gn (by decide) (z_gn (by decide) (z_gn (by decide) (z_gn (by decide) (z_gn (by decide) (z_gn (by decide) b19)))))))))))))))))))))))))))))))) (by decide) (by decide) rfl ?_
  refine z_ez (t := 144) (t2 := 136) zd190_133 rfl rfl ?_
  refine z_e1 (pc1 := 138) (L1 := [some (.ref 19), some (.int 0), some (.int 0), none, none, none]) (S1 := [.int (-100)]) zd190_136 rfl rfl rfl ?_
  refine z_e1 (pc1 := 139) (L1 := [some (.ref 19), some (.int 0), some (.int 0), none, none, none]) (S1 := [.ref 19, .int (-100)]) zd190_138 rfl rfl rfl ?_
  refine z_egf (fs := [.ref 20, .int 0, .ref 21, .ref 22, .ref 23, .ref 24, .ref 25, .ref 26, .ref 27, .ref 28, .ref 29, .ref 30, .ref 31, .int 0, .ref 32, .ref 33, .ref 34, .ref 35, .ref 36, .ref 37, .ref 38, .int 0, .int 0, .int 1, .int 0, .int 0, .int 0, .int 0, .int 0, .int 0, .int 0, .ref 39, .ref 40, .ref 41, .int 0, .int 0, .ref 42, .ref 43, .ref 44, .ref 45, .ref 46, .int 0, .ref 47, .int 0, .int 0, .int 0, .ref 48, .int 0, .int 0, .ref 49, .ref 50, .ref 51, .ref 52]) (v := .int 0) zd190_139 zf190_136 (z_gs1 (z_gs1 (z_gn (by decide) (z_gn (by decide) (z_gn (by decide) (z_gn (by decide) (z_gs1 (z_gs1 (z_gs1 (z_gs1 (z_gs1 (z_gs1 (z_gs1 (z_gn (by decide) (z_gn (by decide) (z_gn (by decide) (z_gn (by decide) (z_gn (by decide) (z_gn (by decide) (z_gn (by decide) (z_gn (by decide) (z_gn (by decide) (z_gn (by decide) (z_gn (by decide) (z_gn (by decide) (z_gn (by decide) (z_gn (by decide) (z_gn (by decide) (z_gn (by decide) (z_gn (by decide) (z_gn (by decide) (z_gn (by decide) b19)))))))))))))))))))))))))))))))) (by decide) (by decide) rfl ?_
  refine z_e1 (pc1 := 143) (L1 := [some (.ref 19), some (.int 0), some (.int 0), none, none, none]) (S1 := [.int (-100)]) zd190_142 rfl rfl rfl ?_
  refine z_eri zd190_143 zr190 ?_
  show z_ev _ 0 241 [some (.ref 0), some (.ref 4), some (.ref 19), some (.int 0)] [.int (-100), .int (-100)] _ _
  refine z_ej (t := 1775) (t2 := 1775) zd0_241 rfl rfl ?_
  refine z_e1 (pc1 := 1778) (L1 := [some (.ref 0), some (.ref 4), some (.ref 19), some (.int 6)]) (S1 := []) zd0_1775 rfl rfl rfl ?_
  refine z_e1 (pc1 := 18) (L1 := [some (.ref 0), some (.ref 4), some (.ref 19), some (.int 6)]) (S1 := []) zd0_1778 rfl rfl rfl ?_
  refine z_e1 (pc1 := 19) (L1 := [some (.ref 0), some (.ref 4), some (.ref 19), some (.int 6)]) (S1 := [.int 6]) zd0_18 rfl rfl rfl ?_
  refine z_e1 (pc1 := 20) (L1 := [some (.ref 0), some (.ref 4), some (.ref 19), some (.int 6)]) (S1 := [.ref 0, .int 6]) zd0_19 rfl rfl rfl ?_
  refine z_ealn (y := 6) zd0_20 (z_gn (by decide) (z_gn (by decide) (z_gn (by decide) (z_gn (by decide) (z_gn (by decide) (z_gn (by decide) (z_gn (by decide) (z_gn (by decide) (z_gn (by decide) (z_gn (by decide) (z_gn (by decide) (z_gn (by decide) (z_gn (by decide) (z_gn (by decide) (z_gn (by decide) (z_gn (by decide) (z_gn (by decide) (z_gn (by decide) (z_gn (by decide) (z_gn (by decide) (z_gn (by decide) (z_gn (by decide) (z_gn (by decide) (z_gn (by decide) (z_gn (by decide) (z_gn (by decide) (z_gn (by decide) (z_gn (by decide) (z_gn (by decide) (z_gn (by decide) (z_gn (by decide) (z_gn (by decide) h0)))))))))))))))))))))))))))))))) rfl ?_
  refine z_e1 (pc1 := 23) (L1 := [some (.ref 0), some (.ref 4), some (.ref 19), some (.int 6)]) (S1 := [.int 6, .int 6, .int 6]) zd0_21 rfl rfl rfl ?_
  refine z_e1 (pc1 := 24) (L1 := [some (.ref 0), some (.ref 4), some (.ref 19), some (.int 6)]) (S1 := [.int 0, .int 6]) zd0_23 rfl rfl rfl ?_
  refine z_ej (t := 1781) (t2 := 1781) zd0_24 rfl rfl ?_
  refine z_e1 (pc1 := 1782) (L1 := [some (.ref 0), some (.ref 4), some (.ref 19), some (.int 6)]) (S1 := [.int 1]) zd0_1781 rfl rfl rfl ?_
  refine z_erz zd0_1782 zr0 (by decide) ?_
  exact z_K1i (z_nl (z_nl (z_nl (z_nl (z_nl (z_nl (z_nl (z_nl (z_nl (z_nl (z_nl (z_nl (z_nl (z_nl (z_nl (z_nl (z_nl (z_nl (z_nl (z_nl (z_nl (z_nl (z_nl (z_nl (z_nl (z_nl (z_nl (z_nl (z_nl (z_nl (z_nl (z_nl hN)))))))))))))))))))))))))))))))) (z_szs (z_gs1 (z_gn (by decide) (z_gn (by decide) (z_gn (by decide) (z_gn (by decide) (z_gs1 (z_gs1 (z_gs1 (z_gs1 (z_gs1 (z_gs1 (z_gs1 (z_gn (by decide) (z_gn (by decide) (z_gn (by decide) (z_gn (by decide) (z_gn (by decide) (z_gn (by decide) (z_gn (by decide) (z_gn (by decide) (z_gn (by decide) (z_gn (by decide) (z_gn (by decide) (z_gn (by decide) (z_gn (by decide) (z_gn (by decide) (z_gn (by decide) (z_gn (by decide) (z_gn (by decide) (z_gn (by decide) (z_gn (by decide) b19))))))))))))))))))))))))))))))) rfl (z_szs (z_gn (by decide) (z_gn (by decide) (z_gn (by decide) (z_gn (by decide) (z_gs1 (z_gs1 (z_gs1 (z_gs1 (z_gs1 (z_gs1 (z_gs1 (z_gn (by decide) (z_gn (by decide) (z_gn (by decide) (z_gn (by decide) (z_gn (by decide) (z_gn (by decide) (z_gn (by decide) (z_gn (by decide) (z_gn (by decide) (z_gn (by decide) (z_gn (by decide) (z_gn (by decide) (z_gn (by decide) (z_gn (by decide) (z_gn (by decide) (z_gn (by decide) (z_gn (by decide) (z_gn (by decide) (z_gn (by decide) b19)))))))))))))))))))))))))))))) rfl (z_szs (z_gn (by decide) (z_gn (by decide) (z_gn (by decide) (z_gn (by decide) (z_gn (by decide) (z_gn (by decide) (z_gn (by decide) (z_gn (by decide) (z_gn (by decide) (z_gn (by decide) (z_gn (by decide) (z_gn (by decide) (z_gn (by decide) (z_gn (by decide) (z_gn (by decide) (z_gn (by decide) (z_gn (by decide) (z_gn (by decide) (z_gn (by decide) (z_gn (by decide) (z_gn (by decide) (z_gn (by decide) (z_gn (by decide) (z_gn (by decide) (z_gn (by decide) (z_gn (by decide) (z_gn (by decide) (z_gn (by decide) (z_gn (by decide) b24))))))))))))))))))))))))))))) rfl (z_szs (z_gn (by decide) (z_gn (by decide) (z_gn (by decide) (z_gn (by decide) (z_gn (by decide) (z_gn (by decide) (z_gn (by decide) (z_gn (by decide) (z_gn (by decide) (z_gn (by decide) (z_gn (by decide) (z_gn (by decide) (z_gn (by decide) (z_gn (by decide) (z_gn (by decide) (z_gn (by decide) (z_gn (by decide) (z_gn (by decide) (z_gn (by decide) (z_gn (by decide) (z_gn (by decide) (z_gn (by decide) (z_gn (by decide) (z_gn (by decide) (z_gn (by decide) (z_gn (by decide) (z_gn (by decide) (z_gn (by decide) b28)))))))))))))))))))))))))))) rfl (z_szs (z_gn (by decide) (z_gn (by decide) (z_gn (by decide) (z_gn (by decide) (z_gn (by decide) (z_gn (by decide) (z_gn (by decide) (z_gn (by decide) (z_gn (by decide) (z_gn (by decide) (z_gn (by decide) (z_gn (by decide) (z_gn (by decide) (z_gn (by decide) (z_gn (by decide) (z_gn (by decide) (z_gn (by decide) (z_gn (by decide) (z_gn (by decide) (z_gn (by decide) (z_gn (by decide) (z_gn (by decide) (z_gn (by decide) (z_gn (by decide) (z_gn (by decide) (z_gn (by decide) (z_gn (by decide) b27))))))))))))))))))))))))))) rfl (z_szs (z_gn (by decide) (z_gn (by decide) (z_gn (by decide) (z_gn (by decide) (z_gn (by decide) (z_gn (by decide) (z_gn (by decide) (z_gn (by decide) (z_gn (by decide) (z_gn (by decide) (z_gn (by decide) (z_gn (by decide) (z_gn (by decide) (z_gn (by decide) (z_gn (by decide) (z_gn (by decide) (z_gn (by decide) (z_gn (by decide) (z_gn (by decide) (z_gn (by decide) (z_gn (by decide) (z_gn (by decide) (z_gn (by decide) (z_gn (by decide) (z_gn (by decide) (z_gn (by decide) b25)))))))))))))))))))))))))) rfl (z_szs (z_gs1 (z_gs1 (z_gs1 (z_gs1 (z_gs1 (z_gs1 (z_gn (by decide) (z_gn (by decide) (z_gn (by decide) (z_gn (by decide) (z_gn (by decide) (z_gn (by decide) (z_gn (by decide) (z_gn (by decide) (z_gn (by decide) (z_gn (by decide) (z_gn (by decide) (z_gn (by decide) (z_gn (by decide) (z_gn (by decide) (z_gn (by decide) (z_gn (by decide) (z_gn (by decide) (z_gn (by decide) (z_gn (by decide) b19))))))))))))))))))))))))) rfl (z_szs (z_gs1 (z_gs1 (z_gs1 (z_gs1 (z_gs1 (z_gn (by decide) (z_gn (by decide) (z_gn (by decide) (z_gn (by decide) (z_gn (by decide) (z_gn (by decide) (z_gn (by decide) (z_gn (by decide) (z_gn (by decide) (z_gn (by decide) (z_gn (by decide) (z_gn (by decide) (z_gn (by decide) (z_gn (by decide) (z_gn (by decide) (z_gn (by decide) (z_gn (by decide) (z_gn (by decide) (z_gn (by decide) b19)))))))))))))))))))))))) rfl (z_szs (z_gs1 (z_gs1 (z_gs1 (z_gs1 (z_gn (by decide) (z_gn (by decide) (z_gn (by decide) (z_gn (by decide) (z_gn (by decide) (z_gn (by decide) (z_gn (by decide) (z_gn (by decide) (z_gn (by decide) (z_gn (by decide) (z_gn (by decide) (z_gn (by decide) (z_gn (by decide) (z_gn (by decide) (z_gn (by decide) (z_gn (by decide) (z_gn (by decide) (z_gn (by decide) (z_gn (by decide) b19))))))))))))))))))))))) rfl (z_szs (z_gs1 (z_gs1 (z_gs1 (z_gn (by decide) (z_gn (by decide) (z_gn (by decide) (z_gn (by decide) (z_gn (by decide) (z_gn (by decide) (z_gn (by decide) (z_gn (by decide) (z_gn (by decide) (z_gn (by decide) (z_gn (by decide) (z_gn (by decide) (z_gn (by decide) (z_gn (by decide) (z_gn (by decide) (z_gn (by decide) (z_gn (by decide) (z_gn (by decide) (z_gn (by decide) b19)))))))))))))))))))))) rfl (z_szs (z_gs1 (z_gs1 (z_gn (by decide) (z_gn (by decide) (z_gn (by decide) (z_gn (by decide) (z_gn (by decide) (z_gn (by decide) (z_gn (by decide) (z_gn (by decide) (z_gn (by decide) (z_gn (by decide) (z_gn (by decide) (z_gn (by decide) (z_gn (by decide) (z_gn (by decide) (z_gn (by decide) (z_gn (by decide) (z_gn (by decide) (z_gn (by decide) (z_gn (by decide) b19))))))))))))))))))))) rfl (z_szs (z_gs1 (z_gn (by decide) (z_gn (by decide) (z_gn (by decide) (z_gn (by decide) (z_gn (by decide) (z_gn (by decide) (z_gn (by decide) (z_gn (by decide) (z_gn (by decide) (z_gn (by decide) (z_gn (by decide) (z_gn (by decide) (z_gn (by decide) (z_gn (by decide) (z_gn (by decide) (z_gn (by decide) (z_gn (by decide) (z_gn (by decide) (z_gn (by decide) b19)))))))))))))))))))) rfl (z_szs (z_gn (by decide) (z_gn (by decide) (z_gn (by decide) (z_gn (by decide) (z_gn (by decide) (z_gn (by decide) (z_gn (by decide) (z_gn (by decide) (z_gn (by decide) (z_gn (by decide) (z_gn (by decide) (z_gn (by decide) (z_gn (by decide) (z_gn (by decide) (z_gn (by decide) (z_gn (by decide) (z_gn (by decide) (z_gn (by decide) (z_gn (by decide) b19))))))))))))))))))) rfl (z_szs (z_gs1 (z_gn (by decide) (z_gn (by decide) (z_gn (by decide) (z_gn (by decide) (z_gn (by decide) (z_gn (by decide) (z_gn (by decide) (z_gn (by decide) (z_gn (by decide) (z_gn (by decide) (z_gs1 (z_gs1 (z_gs1 (z_gs1 (z_gs1 (z_gs1 (z_gs1 b5)))))))))))))))))) rfl (z_szs (z_gn (by decide) (z_gn (by decide) (z_gn (by decide) (z_gn (by decide) (z_gn (by decide) (z_gn (by decide) (z_gn (by decide) (z_gn (by decide) (z_gn (by decide) (z_gn (by decide) (z_gs1 (z_gs1 (z_gs1 (z_gs1 (z_gs1 (z_gs1 (z_gs1 b5))))))))))))))))) rfl (z_szs (z_gs1 (z_gs1 (z_gs1 (z_gs1 (z_gs1 (z_gs1 (z_gs1 (z_gs1 (z_gs1 (z_gn (by decide) (z_gn (by decide) (z_gn (by decide) (z_gn (by decide) (z_gn (by decide) (z_gn (by decide) (z_gn (by decide) b7)))))))))))))))) rfl (z_szs (z_gs1 (z_gs1 (z_gs1 (z_gs1 (z_gs1 (z_gs1 (z_gs1 (z_gs1 (z_gn (by decide) (z_gn (by decide) (z_gn (by decide) (z_gn (by decide) (z_gn (by decide) (z_gn (by decide) (z_gn (by decide) b7))))))))))))))) rfl (z_szs (z_gs1 (z_gs1 (z_gs1 (z_gs1 (z_gs1 (z_gs1 (z_gs1 (z_gn (by decide) (z_gn (by decide) (z_gn (by decide) (z_gn (by decide) (z_gn (by decide) (z_gn (by decide) (z_gn (by decide) b7)))))))))))))) rfl (z_szs (z_gs1 (z_gs1 (z_gs1 (z_gs1 (z_gs1 (z_gs1 (z_gn (by decide) (z_gn (by decide) (z_gn (by decide) (z_gn (by decide) (z_gn (by decide) (z_gn (by decide) (z_gn (by decide) b7))))))))))))) rfl (z_szs (z_gs1 (z_gs1 (z_gs1 (z_gs1 (z_gs1 (z_gn (by decide) (z_gn (by decide) (z_gn (by decide) (z_gn (by decide) (z_gn (by decide) (z_gn (by decide) (z_gn (by decide) b7)))))))))))) rfl (z_szs (z_gs1 (z_gs1 (z_gs1 (z_gs1 (z_gn (by decide) (z_gn (by decide) (z_gn (by decide) (z_gn (by decide) (z_gn (by decide) (z_gn (by decide) (z_gn (by decide) b7))))))))))) rfl (z_szs (z_gs1 (z_gs1 (z_gs1 (z_gn (by decide) (z_gn (by decide) (z_gn (by decide) (z_gn (by decide) (z_gn (by decide) (z_gn (by decide) (z_gn (by decide) b7)))))))))) rfl (z_szs (z_gs1 (z_gs1 (z_gn (by decide) (z_gn (by decide) (z_gn (by decide) (z_gn (by decide) (z_gn (by decide) (z_gn (by decide) (z_gn (by decide) b7))))))))) rfl (z_szs (z_gs1 (z_gn (by decide) (z_gn (by decide) (z_gn (by decide) (z_gn (by decide) (z_gn (by decide) (z_gn (by decide) (z_gn (by decide) b7)))))))) rfl (z_szs (z_gn (by decide) (z_gn (by decide) (z_gn (by decide) (z_gn (by decide) (z_gn (by decide) (z_gn (by decide) (z_gn (by decide) b7))))))) rfl (z_szs (z_gs1 (z_gs1 (z_gs1 (z_gs1 (z_gs1 (z_gs1 b5)))))) rfl (z_szs (z_gs1 (z_gs1 (z_gs1 (z_gs1 (z_gs1 b5))))) rfl (z_szs (z_gs1 (z_gs1 (z_gs1 (z_gs1 b5)))) rfl (z_szs (z_gs1 (z_gs1 (z_gs1 b5))) rfl (z_szs (z_gs1 (z_gs1 b5)) rfl (z_szs (z_gs1 b5) rfl (z_szs b5 rfl hS)))))))))))))))))))))))))))))))) (by decide) (by decide)
theorem z_C2 {M : zH} {xs : Nat → Int32} {x1 x2 x3 x4 x5 : Int32} (h0 : M[0]? = some (.inl (0, 6, .inl xs))) (hN : M.length = 53) (hS : z_sz M ≤ 50000) (hB : z_fr M 4 53) (g1 : xs 1 = x1) (g2 : xs 2 = x2) (g3 : xs 3 = x3) (g4 : xs 4 = x4) (g5 : xs 5 = x5) : z_ev 2047 0 246 [some (.ref 0), some (.ref 4), some (.ref 19), some (.int 0)] [] M z_K1 := by
  have b4 := z_qO (hB 4 (by decide) (by decide))
  have b19 := z_qO (hB 19 (by decide) (by decide))
  refine z_e1 (pc1 := 247) (L1 := [some (.ref 0), some (.ref 4), some (.ref 19), some (.int 0)]) (S1 := [.ref 4]) zd0_246 rfl rfl rfl ?_
  refine z_e1 (pc1 := 248) (L1 := [some (.ref 0), some (.ref 4), some (.ref 19), some (.int 0)]) (S1 := [.ref 0, .ref 4]) zd0_247 rfl rfl rfl ?_
  refine z_e1 (pc1 := 249) (L1 := [some (.ref 0), some (.ref 4), some (.ref 19), some (.int 0)]) (S1 := [.int 0, .ref 0, .ref 4]) zd0_248 rfl rfl rfl ?_
  refine z_e1 (pc1 := 250) (L1 := [some (.ref 0), some (.ref 4), some (.ref 19), some (.int 0)]) (S1 := [.int 1, .int 0, .ref 0, .ref 4]) zd0_249 rfl rfl rfl ?_
  refine z_e1 (pc1 := 251) (L1 := [some (.ref 0), some (.ref 4), some (.ref 19), some (.int 0)]) (S1 := [.int 1, .ref 0, .ref 4]) zd0_250 rfl rfl rfl ?_
  refine z_eial (y := x1) zd0_251 h0 (by decide) g1 ?_
  refine z_e1 (pc1 := 253) (L1 := [some (.ref 0), some (.ref 4), some (.ref 19), some (.int 0)]) (S1 := [.ref 0, .int x1, .ref 4]) zd0_252 rfl rfl rfl ?_
  refine z_e1 (pc1 := 254) (L1 := [some (.ref 0), some (.ref 4), some (.ref 19), some (.int 0)]) (S1 := [.int 0, .ref 0, .int x1, .ref 4]) zd0_253 rfl rfl rfl ?_
  refine z_e1 (pc1 := 255) (L1 := [some (.ref 0), some (.ref 4), some (.ref 19), some (.int 0)]) (S1 := [.int 2, .int 0, .ref 0, .int x1, .ref 4]) zd0_254 rfl rfl rfl ?_
  refine z_e1 (pc1 := 256) (L1 := [some (.ref 0), some (.ref 4), some (.ref 19), some (.int 0)]) (S1 := [.int 2, .ref 0, .int x1, .ref 4]) zd0_255 rfl rfl rfl ?_
  refine z_eial (y := x2) zd0_256 h0 (by decide) g2 ?_
  refine z_ecV (vs := [.ref 4, .int x1, .int x2]) (r := []) (L2 := [some (.ref 4), some (.int x1), some (.int x2), none]) zd0_257 zcV0_23 (Or.inl rfl) rfl b4 (by decide) rfl rfl rfl (Nat.le_of_ble_eq_true rfl) zm34 (Nat.le_of_ble_eq_true rfl) rfl ?_
  refine z_e1 (pc1 := 1) (L1 := [some (.ref 4), some (.int x1), some (.int x2), none]) (S1 := [.ref 4]) zd34_0 rfl rfl rfl ?_
  refine z_e1 (pc1 := 2) (L1 := [some (.ref 4), some (.int x1), some (.int x2), none]) (S1 := [.int x1, .ref 4]) zd34_1 rfl rfl rfl ?_
  refine z_ecV (vs := [.ref 4, .int x1]) (r := []) (L2 := [some (.ref 4), some (.int x1)]) zd34_2 zcV34_85 (Or.inl rfl) rfl b4 (by decide) rfl rfl rfl (Nat.le_of_ble_eq_true rfl) zm35 (Nat.le_of_ble_eq_true rfl) rfl ?_
  refine z_e1 (pc1 := 1) (L1 := [some (.ref 4), some (.int x1)]) (S1 := [.int x1]) zd35_0 rfl rfl rfl ?_
  by_cases e1 : x1.toInt < 0
  · refine z_ez (t := 12) (t2 := 12) zd35_1 rfl (z_b_ltx1 (k := 0) (by decide) e1) ?_
    refine z_e1 (pc1 := 13) (L1 := [some (.ref 4), some (.int x1)]) (S1 := [.null]) zd35_12 rfl rfl rfl ?_
    refine z_e1 (pc1 := 22) (L1 := [some (.ref 4), some (.int x1)]) (S1 := [.null]) zd35_13 rfl rfl rfl ?_
    refine z_ern zd35_22 zr35 ?_
    show z_ev _ 34 5 [some (.ref 4), some (.int x1), some (.int x2), none] [.null] _ _
    refine z_e1 (pc1 := 6) (L1 := [some (.ref 4), some (.int x1), some (.int x2), some (.null)]) (S1 := []) zd34_5 rfl rfl rfl ?_
    refine z_e1 (pc1 := 7) (L1 := [some (.ref 4), some (.int x1), some (.int x2), some (.null)]) (S1 := [.null]) zd34_6 rfl rfl rfl ?_
    refine z_e1 (pc1 := 10) (L1 := [some (.ref 4), some (.int x1), some (.int x2), some (.null)]) (S1 := []) zd34_7 rfl rfl rfl ?_
    refine z_e1 (pc1 := 11) (L1 := [some (.ref 4), some (.int x1), some (.int x2), some (.null)]) (S1 := [.int (-1)]) zd34_10 rfl rfl rfl ?_
    refine z_eri zd34_11 zr34 ?_
    show z_ev _ 0 260 [some (.ref 0), some (.ref 4), some (.ref 19), some (.int 0)] [.int (-1)] _ _
    refine z_e1 (pc1 := 261) (L1 := [some (.ref 0), some (.ref 4), some (.ref 19), some (.int 0)]) (S1 := [.ref 19, .int (-1)]) zd0_260 rfl rfl rfl ?_
    refine z_e1 (pc1 := 262) (L1 := [some (.ref 0), some (.ref 4), some (.ref 19), some (.int 0)]) (S1 := [.ref 0, .ref 19, .int (-1)]) zd0_261 rfl rfl rfl ?_
    refine z_e1 (pc1 := 263) (L1 := [some (.ref 0), some (.ref 4), some (.ref 19), some (.int 0)]) (S1 := [.int 0, .ref 0, .ref 19, .int (-1)]) zd0_262 rfl rfl rfl ?_
    refine z_e1 (pc1 := 264) (L1 := [some (.ref 0), some (.ref 4), some (.ref 19), some (.int 0)]) (S1 := [.int 1, .int 0, .ref 0, .ref 19, .int (-1)]) zd0_263 rfl rfl rfl ?_
    refine z_e1 (pc1 := 265) (L1 := [some (.ref 0), some (.ref 4), some (.ref 19), some (.int 0)]) (S1 := [.int 1, .ref 0, .ref 19, .int (-1)]) zd0_264 rfl rfl rfl ?_
    refine z_eial (y := x1) zd0_265 h0 (by decide) g1 ?_
    refine z_e1 (pc1 := 267) (L1 := [some (.ref 0), some (.ref 4), some (.ref 19), some (.int 0)]) (S1 := [.ref 0, .int x1, .ref 19, .int (-1)]) zd0_266 rfl rfl rfl ?_
    refine z_e1 (pc1 := 268) (L1 := [some (.ref 0), some (.ref 4), some (.ref 19), some (.int 0)]) (S1 := [.int 0, .ref 0, .int x1, .ref 19, .int (-1)]) zd0_267 rfl rfl rfl ?_
    refine z_e1 (pc1 := 269) (L1 := [some (.ref 0), some (.ref 4), some (.ref 19), some (.int 0)]) (S1 := [.int 2, .int 0, .ref 0, .int x1, .ref 19, .int (-1)]) zd0_268 rfl rfl rfl ?_
    refine z_e1 (pc1 := 270) (L1 := [some (.ref 0), some (.ref 4), some (.ref 19), some (.int 0)]) (S1 := [.int 2, .ref 0, .int x1, .ref 19, .int (-1)]) zd0_269 rfl rfl rfl ?_
    refine z_eial (y := x2) zd0_270 h0 (by decide) g2 ?_
    refine z_ecV (vs := [.ref 19, .int x1, .int x2]) (r := [.int (-1)]) (L2 := [some (.ref 19), some (.int x1), some (.int x2)]) zd0_271 zcV0_26 (Or.inl rfl) rfl b19 (by decide) rfl rfl rfl (Nat.le_of_ble_eq_true rfl) zm208 (Nat.le_of_ble_eq_true rfl) rfl ?_
    refine z_e1 (pc1 := 1) (L1 := [some (.ref 19), some (.int x1), some (.int x2)]) (S1 := [.ref 19]) zd208_0 rfl rfl rfl ?_
    refine z_e1 (pc1 := 2) (L1 := [some (.ref 19), some (.int x1), some (.int x2)]) (S1 := [.int x1, .ref 19]) zd208_1 rfl rfl rfl ?_
    refine z_ecV (vs := [.ref 19, .int x1]) (r := []) (L2 := [some (.ref 19), some (.int x1)]) zd208_2 zcV208_209 (Or.inl rfl) rfl b19 (by decide) rfl rfl rfl (Nat.le_of_ble_eq_true rfl) zm209 (Nat.le_of_ble_eq_true rfl) rfl ?_
    refine z_e1 (pc1 := 1) (L1 := [some (.ref 19), some (.int x1)]) (S1 := [.int x1]) zd209_0 rfl rfl rfl ?_
    refine z_ez (t := 16) (t2 := 16) zd209_1 rfl (z_b_ltx1 (k := 0) (by decide) (show x1.toInt < 0 from by omega)) ?_
    refine z_e1 (pc1 := 17) (L1 := [some (.ref 19), some (.int x1)]) (S1 := [.int 0]) zd209_16 rfl rfl rfl ?_
    refine z_erz zd209_17 zr209 (by decide) ?_
    show z_ev _ 208 5 [some (.ref 19), some (.int x1), some (.int x2)] [.int 0] _ _
    refine z_ez (t := 10) (t2 := 8) zd208_5 rfl rfl ?_
    refine z_e1 (pc1 := 9) (L1 := [some (.ref 19), some (.int x1), some (.int x2)]) (S1 := [.int (-1)]) zd208_8 rfl rfl rfl ?_
    refine z_eri zd208_9 zr208 ?_
    show z_ev _ 0 274 [some (.ref 0), some (.ref 4), some (.ref 19), some (.int 0)] [.int (-1), .int (-1)] _ _
    refine z_ej (t := 1775) (t2 := 1775) zd0_274 rfl rfl ?_
    refine z_e1 (pc1 := 1778) (L1 := [some (.ref 0), some (.ref 4), some (.ref 19), some (.int 6)]) (S1 := []) zd0_1775 rfl rfl rfl ?_
    refine z_e1 (pc1 := 18) (L1 := [some (.ref 0), some (.ref 4), some (.ref 19), some (.int 6)]) (S1 := []) zd0_1778 rfl rfl rfl ?_
    refine z_e1 (pc1 := 19) (L1 := [some (.ref 0), some (.ref 4), some (.ref 19), some (.int 6)]) (S1 := [.int 6]) zd0_18 rfl rfl rfl ?_
    refine z_e1 (pc1 := 20) (L1 := [some (.ref 0), some (.ref 4), some (.ref 19), some (.int 6)]) (S1 := [.ref 0, .int 6]) zd0_19 rfl rfl rfl ?_
    refine z_ealn (y := 6) zd0_20 h0 rfl ?_
    refine z_e1 (pc1 := 23) (L1 := [some (.ref 0), some (.ref 4), some (.ref 19), some (.int 6)]) (S1 := [.int 6, .int 6, .int 6]) zd0_21 rfl rfl rfl ?_
    refine z_e1 (pc1 := 24) (L1 := [some (.ref 0), some (.ref 4), some (.ref 19), some (.int 6)]) (S1 := [.int 0, .int 6]) zd0_23 rfl rfl rfl ?_
    refine z_ej (t := 1781) (t2 := 1781) zd0_24 rfl rfl ?_
    refine z_e1 (pc1 := 1782) (L1 := [some (.ref 0), some (.ref 4), some (.ref 19), some (.int 6)]) (S1 := [.int 1]) zd0_1781 rfl rfl rfl ?_
    refine z_erz zd0_1782 zr0 (by decide) ?_
    exact z_K1i hN hS (by decide) (by decide)
  · refine z_ez (t := 12) (t2 := 4) zd35_1 rfl (z_b_ltx0 (k := 0) (by decide) e1) ?_
    refine z_e1 (pc1 := 5) (L1 := [some (.ref 4), some (.int x1)]) (S1 := [.int x1]) zd35_4 rfl rfl rfl ?_
    refine z_e1 (pc1 := 6) (L1 := [some (.ref 4), some (.int x1)]) (S1 := [.ref 4, .int x1]) zd35_5 rfl rfl rfl ?_
    refine z_egf (fs := [.ref 5, .ref 10, .ref 11, .int 0, .ref 12, .int 0, .ref 13, .ref 14, .ref 15, .ref 16, .ref 17, .ref 18, .null]) (v := .int 0) zd35_6 zf35_59 b4 (by decide) (by decide) rfl ?_
    refine z_ej (t := 16) (t2 := 12) zd35_9 rfl (z_b_ltx0 (k := 0) (by decide) (show ¬ x1.toInt < 0 from by omega)) ?_
    refine z_e1 (pc1 := 13) (L1 := [some (.ref 4), some (.int x1)]) (S1 := [.null]) zd35_12 rfl rfl rfl ?_
    refine z_e1 (pc1 := 22) (L1 := [some (.ref 4), some (.int x1)]) (S1 := [.null]) zd35_13 rfl rfl rfl ?_
    refine z_ern zd35_22 zr35 ?_
    show z_ev _ 34 5 [some (.ref 4), some (.int x1), some (.int x2), none] [.null] _ _
    refine z_e1 (pc1 := 6) (L1 := [some (.ref 4), some (.int x1), some (.int x2), some (.null)]) (S1 := []) zd34_5 rfl rfl rfl ?_
    refine z_e1 (pc1 := 7) (L1 := [some (.ref 4), some (.int x1), some (.int x2), some (.null)]) (S1 := [.null]) zd34_6 rfl rfl rfl ?_
    refine z_e1 (pc1 := 10) (L1 := [some (.ref 4), some (.int x1), some (.int x2), some (.null)]) (S1 := []) zd34_7 rfl rfl rfl ?_
    refine z_e1 (pc1 := 11) (L1 := [some (.ref 4), some (.int x1), some (.int x2), some (.null)]) (S1 := [.int (-1)]) zd34_10 rfl rfl rfl ?_
    refine z_eri zd34_11 zr34 ?_
    show z_ev _ 0 260 [some (.ref 0), some (.ref 4), some (.ref 19), some (.int 0)] [.int (-1)] _ _
    refine z_e1 (pc1 := 261) (L1 := [some (.ref 0), some (.ref 4), some (.ref 19), some (.int 0)]) (S1 := [.ref 19, .int (-1)]) zd0_260 rfl rfl rfl ?_
    refine z_e1 (pc1 := 262) (L1 := [some (.ref 0), some (.ref 4), some (.ref 19), some (.int 0)]) (S1 := [.ref 0, .ref 19, .int (-1)]) zd0_261 rfl rfl rfl ?_
    refine z_e1 (pc1 := 263) (L1 := [some (.ref 0), some (.ref 4), some (.ref 19), some (.int 0)]) (S1 := [.int 0, .ref 0, .ref 19, .int (-1)]) zd0_262 rfl rfl rfl ?_
    refine z_e1 (pc1 := 264) (L1 := [some (.ref 0), some (.ref 4), some (.ref 19), some (.int 0)]) (S1 := [.int 1, .int 0, .ref 0, .ref 19, .int (-1)]) zd0_263 rfl rfl rfl ?_
    refine z_e1 (pc1 := 265) (L1 := [some (.ref 0), some (.ref 4), some (.ref 19), some (.int 0)]) (S1 := [.int 1, .ref 0, .ref 19, .int (-1)]) zd0_264 rfl rfl rfl ?_
    refine z_eial (y := x1) zd0_265 h0 (by decide) g1 ?_
    refine z_e1 (pc1 := 267) (L1 := [some (.ref 0), some (.ref 4), some (.ref 19), some (.int 0)]) (S1 := [.ref 0, .int x1, .ref 19, .int (-1)]) zd0_266 rfl rfl rfl ?_
    refine z_e1 (pc1 := 268) (L1 := [some (.ref 0), some (.ref 4), some (.ref 19), some (.int 0)]) (S1 := [.int 0, .ref 0, .int x1, .ref 19, .int (-1)]) zd0_267 rfl rfl rfl ?_
    refine z_e1 (pc1 := 269) (L1 := [some (.ref 0), some (.ref 4), some (.ref 19), some (.int 0)]) (S1 := [.int 2, .int 0, .ref 0, .int x1, .ref 19, .int (-1)]) zd0_268 rfl rfl rfl ?_
    refine z_e1 (pc1 := 270) (L1 := [some (.ref 0), some (.ref 4), some (.ref 19), some (.int 0)]) (S1 := [.int 2, .ref 0, .int x1, .ref 19, .int (-1)]) zd0_269 rfl rfl rfl ?_
    refine z_eial (y := x2) zd0_270 h0 (by decide) g2 ?_
    refine z_ecV (vs := [.ref 19, .int x1, .int x2]) (r := [.int (-1)]) (L2 := [some (.ref 19), some (.int x1), some (.int x2)]) zd0_271 zcV0_26 (Or.inl rfl) rfl b19 (by decide) rfl rfl rfl (Nat.le_of_ble_eq_true rfl) zm208 (Nat.le_of_ble_eq_true rfl) rfl ?_
    refine z_e1 (pc1 := 1) (L1 := [some (.ref 19), some (.int x1), some (.int x2)]) (S1 := [.ref 19]) zd208_0 rfl rfl rfl ?_
    refine z_e1 (pc1 := 2) (L1 := [some (.ref 19), some (.int x1), some (.int x2)]) (S1 := [.int x1, .ref 19]) zd208_1 rfl rfl rfl ?_
    refine z_ecV (vs := [.ref 19, .int x1]) (r := []) (L2 := [some (.ref 19), some (.int x1)]) zd208_2 zcV208_209 (Or.inl rfl) rfl b19 (by decide) rfl rfl rfl (Nat.le_of_ble_eq_true rfl) zm209 (Nat.le_of_ble_eq_true rfl) rfl ?_
    refine z_e1 (pc1 := 1) (L1 := [some (.ref 19), some (.int x1)]) (S1 := [.int x1]) zd209_0 rfl rfl rfl ?_
    refine z_ez (t := 16) (t2 := 4) zd209_1 rfl (z_b_ltx0 (k := 0) (by decide) (show ¬ x1.toInt < 0 from by omega)) ?_
    refine z_e1 (pc1 := 5) (L1 := [some (.ref 19), some (.int x1)]) (S1 := [.int x1]) zd209_4 rfl rfl rfl ?_
    refine z_e1 (pc1 := 6) (L1 := [some (.ref 19), some (.int x1)]) (S1 := [.ref 19, .int x1]) zd209_5 rfl rfl rfl ?_
    refine z_egf (fs := [.ref 20, .int 0, .ref 21, .ref 22, .ref 23, .ref 24, .ref 25, .ref 26, .ref 27, .ref 28, .ref 29, .ref 30, .ref 31, .int 0, .ref 32, .ref 33, .ref 34, .ref 35, .ref 36, .ref 37, .ref 38, .int 0, .int 0, .int 0, .int 0, .int 0, .int 0, .int 0, .int 0, .int 0, .int 0, .ref 39, .ref 40, .ref 41, .int 0, .int 0, .ref 42, .ref 43, .ref 44, .ref 45, .ref 46, .int 0, .ref 47, .int 0, .int 0, .int 0, .ref 48, .int 0, .int 0, .ref 49, .ref 50, .ref 51, .ref 52]) (v := .int 0) zd209_6 zf209_110 b19 (by decide) (by decide) rfl ?_
    refine z_ej (t := 16) (t2 := 16) zd209_9 rfl (z_b_gex0 (k := 0) (by decide) (show ¬ x1.toInt < 0 from by omega)) ?_
    refine z_e1 (pc1 := 17) (L1 := [some (.ref 19), some (.int x1)]) (S1 := [.int 0]) zd209_16 rfl rfl rfl ?_
    refine z_erz zd209_17 zr209 (by decide) ?_
    show z_ev _ 208 5 [some (.ref 19), some (.int x1), some (.int x2)] [.int 0] _ _
    refine z_ez (t := 10) (t2 := 8) zd208_5 rfl rfl ?_
    refine z_e1 (pc1 := 9) (L1 := [some (.ref 19), some (.int x1), some (.int x2)]) (S1 := [.int (-1)]) zd208_8 rfl rfl rfl ?_
    refine z_eri zd208_9 zr208 ?_
    show z_ev _ 0 274 [some (.ref 0), some (.ref 4), some (.ref 19), some (.int 0)] [.int (-1), .int (-1)] _ _
    refine z_ej (t := 1775) (t2 := 1775) zd0_274 rfl rfl ?_
    refine z_e1 (pc1 := 1778) (L1 := [some (.ref 0), some (.ref 4), some (.ref 19), some (.int 6)]) (S1 := []) zd0_1775 rfl rfl rfl ?_
    refine z_e1 (pc1 := 18) (L1 := [some (.ref 0), some (.ref 4), some (.ref 19), some (.int 6)]) (S1 := []) zd0_1778 rfl rfl rfl ?_
    refine z_e1 (pc1 := 19) (L1 := [some (.ref 0), some (.ref 4), some (.ref 19), some (.int 6)]) (S1 := [.int 6]) zd0_18 rfl rfl rfl ?_
    refine z_e1 (pc1 := 20) (L1 := [some (.ref 0), some (.ref 4), some (.ref 19), some (.int 6)]) (S1 := [.ref 0, .int 6]) zd0_19 rfl rfl rfl ?_
    refine z_ealn (y := 6) zd0_20 h0 rfl ?_
    refine z_e1 (pc1 := 23) (L1 := [some (.ref 0), some (.ref 4), some (.ref 19), some (.int 6)]) (S1 := [.int 6, .int 6, .int 6]) zd0_21 rfl rfl rfl ?_
    refine z_e1 (pc1 := 24) (L1 := [some (.ref 0), some (.ref 4), some (.ref 19), some (.int 6)]) (S1 := [.int 0, .int 6]) zd0_23 rfl rfl rfl ?_
    refine z_ej (t := 1781) (t2 := 1781) zd0_24 rfl rfl ?_
    refine z_e1 (pc1 := 1782) (L1 := [some (.ref 0), some (.ref 4), some (.ref 19), some (.int 6)]) (S1 := [.int 1]) zd0_1781 rfl rfl rfl ?_
    refine z_erz zd0_1782 zr0 (by decide) ?_
    exact z_K1i hN hS (by decide) (by decide)
theorem z_C3 {M : zH} {xs : Nat → Int32} {x1 x2 x3 x4 x5 : Int32} (h0 : M[0]? = some (.inl (0, 6, .inl xs))) (hN : M.length = 53) (hS : z_sz M ≤ 50000) (hB : z_fr M 4 53) (g1 : xs 1 = x1) (g2 : xs 2 = x2) (g3 : xs 3 = x3) (g4 : xs 4 = x4) (g5 : xs 5 = x5) : z_ev 2047 0 279 [some (.ref 0), some (.ref 4), some (.ref 19), some (.int 0)] [] M z_K1 := by
  have b4 := z_qO (hB 4 (by decide) (by decide))
  have b19 := z_qO (hB 19 (by decide) (by decide))
  refine z_e1 (pc1 := 280) (L1 := [some (.ref 0), some (.ref 4), some (.ref 19), some (.int 0)]) (S1 := [.ref 4]) zd0_279 rfl rfl rfl ?_
  refine z_e1 (pc1 := 281) (L1 := [some (.ref 0), some (.ref 4), some (.ref 19), some (.int 0)]) (S1 := [.ref 0, .ref 4]) zd0_280 rfl rfl rfl ?_
  refine z_e1 (pc1 := 282) (L1 := [some (.ref 0), some (.ref 4), some (.ref 19), some (.int 0)]) (S1 := [.int 0, .ref 0, .ref 4]) zd0_281 rfl rfl rfl ?_
  refine z_e1 (pc1 := 283) (L1 := [some (.ref 0), some (.ref 4), some (.ref 19), some (.int 0)]) (S1 := [.int 1, .int 0, .ref 0, .ref 4]) zd0_282 rfl rfl rfl ?_
  refine z_e1 (pc1 := 284) (L1 := [some (.ref 0), some (.ref 4), some (.ref 19), some (.int 0)]) (S1 := [.int 1, .ref 0, .ref 4]) zd0_283 rfl rfl rfl ?_
  refine z_eial (y := x1) zd0_284 h0 (by decide) g1 ?_
  refine z_e1 (pc1 := 286) (L1 := [some (.ref 0), some (.ref 4), some (.ref 19), some (.int 0)]) (S1 := [.ref 0, .int x1, .ref 4]) zd0_285 rfl rfl rfl ?_
  refine z_e1 (pc1 := 287) (L1 := [some (.ref 0), some (.ref 4), some (.ref 19), some (.int 0)]) (S1 := [.int 0, .ref 0, .int x1, .ref 4]) zd0_286 rfl rfl rfl ?_
  refine z_e1 (pc1 := 288) (L1 := [some (.ref 0), some (.ref 4), some (.ref 19), some (.int 0)]) (S1 := [.int 2, .int 0, .ref 0, .int x1, .ref 4]) zd0_287 rfl rfl rfl ?_
  refine z_e1 (pc1 := 289) (L1 := [some (.ref 0), some (.ref 4), some (.ref 19), some (.int 0)]) (S1 := [.int 2, .ref 0, .int x1, .ref 4]) zd0_288 rfl rfl rfl ?_
  refine z_eial (y := x2) zd0_289 h0 (by decide) g2 ?_
  refine z_ecV (vs := [.ref 4, .int x1, .int x2]) (r := []) (L2 := [some (.ref 4), some (.int x1), some (.int x2), none]) zd0_290 zcV0_27 (Or.inl rfl) rfl b4 (by decide) rfl rfl rfl (Nat.le_of_ble_eq_true rfl) zm36 (Nat.le_of_ble_eq_true rfl) rfl ?_
  refine z_e1 (pc1 := 1) (L1 := [some (.ref 4), some (.int x1), some (.int x2), none]) (S1 := [.ref 4]) zd36_0 rfl rfl rfl ?_
  refine z_e1 (pc1 := 2) (L1 := [some (.ref 4), some (.int x1), some (.int x2), none]) (S1 := [.int x1, .ref 4]) zd36_1 rfl rfl rfl ?_
  refine z_ecV (vs := [.ref 4, .int x1]) (r := []) (L2 := [some (.ref 4), some (.int x1)]) zd36_2 zcV36_108 (Or.inl rfl) rfl b4 (by decide) rfl rfl rfl (Nat.le_of_ble_eq_true rfl) zm37 (Nat.le_of_ble_eq_true rfl) rfl ?_
  refine z_e1 (pc1 := 1) (L1 := [some (.ref 4), some (.int x1)]) (S1 := [.int x1]) zd37_0 rfl rfl rfl ?_
  by_cases e1 : x1.toInt < 0
  · refine z_ez (t := 12) (t2 := 12) zd37_1 rfl (z_b_ltx1 (k := 0) (by decide) e1) ?_
    refine z_e1 (pc1 := 13) (L1 := [some (.ref 4), some (.int x1)]) (S1 := [.null]) zd37_12 rfl rfl rfl ?_
    refine z_e1 (pc1 := 25) (L1 := [some (.ref 4), some (.int x1)]) (S1 := [.null]) zd37_13 rfl rfl rfl ?_
    refine z_ern zd37_25 zr37 ?_
    show z_ev _ 36 5 [some (.ref 4), some (.int x1), some (.int x2), none] [.null] _ _
    refine z_e1 (pc1 := 6) (L1 := [some (.ref 4), some (.int x1), some (.int x2), some (.null)]) (S1 := []) zd36_5 rfl rfl rfl ?_
    refine z_e1 (pc1 := 7) (L1 := [some (.ref 4), some (.int x1), some (.int x2), some (.null)]) (S1 := [.null]) zd36_6 rfl rfl rfl ?_
    refine z_e1 (pc1 := 23) (L1 := [some (.ref 4), some (.int x1), some (.int x2), some (.null)]) (S1 := []) zd36_7 rfl rfl rfl ?_
    refine z_e1 (pc1 := 24) (L1 := [some (.ref 4), some (.int x1), some (.int x2), some (.null)]) (S1 := [.int (-1)]) zd36_23 rfl rfl rfl ?_
    refine z_eri zd36_24 zr36 ?_
    show z_ev _ 0 293 [some (.ref 0), some (.ref 4), some (.ref 19), some (.int 0)] [.int (-1)] _ _
    refine z_e1 (pc1 := 294) (L1 := [some (.ref 0), some (.ref 4), some (.ref 19), some (.int 0)]) (S1 := [.ref 19, .int (-1)]) zd0_293 rfl rfl rfl ?_
    refine z_e1 (pc1 := 295) (L1 := [some (.ref 0), some (.ref 4), some (.ref 19), some (.int 0)]) (S1 := [.ref 0, .ref 19, .int (-1)]) zd0_294 rfl rfl rfl ?_
    refine z_e1 (pc1 := 296) (L1 := [some (.ref 0), some (.ref 4), some (.ref 19), some (.int 0)]) (S1 := [.int 0, .ref 0, .ref 19, .int (-1)]) zd0_295 rfl rfl rfl ?_
    refine z_e1 (pc1 := 297) (L1 := [some (.ref 0), some (.ref 4), some (.ref 19), some (.int 0)]) (S1 := [.int 1, .int 0, .ref 0, .ref 19, .int (-1)]) zd0_296 rfl rfl rfl ?_
    refine z_e1 (pc1 := 298) (L1 := [some (.ref 0), some (.ref 4), some (.ref 19), some (.int 0)]) (S1 := [.int 1, .ref 0, .ref 19, .int (-1)]) zd0_297 rfl rfl rfl ?_
    refine z_eial (y := x1) zd0_298 h0 (by decide) g1 ?_
    refine z_e1 (pc1 := 300) (L1 := [some (.ref 0), some (.ref 4), some (.ref 19), some (.int 0)]) (S1 := [.ref 0, .int x1, .ref 19, .int (-1)]) zd0_299 rfl rfl rfl ?_
    refine z_e1 (pc1 := 301) (L1 := [some (.ref 0), some (.ref 4), some (.ref 19), some (.int 0)]) (S1 := [.int 0, .ref 0, .int x1, .ref 19, .int (-1)]) zd0_300 rfl rfl rfl ?_
    refine z_e1 (pc1 := 302) (L1 := [some (.ref 0), some (.ref 4), some (.ref 19), some (.int 0)]) (S1 := [.int 2, .int 0, .ref 0, .int x1, .ref 19, .int (-1)]) zd0_301 rfl rfl rfl ?_
    refine z_e1 (pc1 := 303) (L1 := [some (.ref 0), some (.ref 4), some (.ref 19), some (.int 0)]) (S1 := [.int 2, .ref 0, .int x1, .ref 19, .int (-1)]) zd0_302 rfl rfl rfl ?_
    refine z_eial (y := x2) zd0_303 h0 (by decide) g2 ?_
    refine z_ecV (vs := [.ref 19, .int x1, .int x2]) (r := [.int (-1)]) (L2 := [some (.ref 19), some (.int x1), some (.int x2)]) zd0_304 zcV0_30 (Or.inl rfl) rfl b19 (by decide) rfl rfl rfl (Nat.le_of_ble_eq_true rfl) zm210 (Nat.le_of_ble_eq_true rfl) rfl ?_
    refine z_e1 (pc1 := 1) (L1 := [some (.ref 19), some (.int x1), some (.int x2)]) (S1 := [.ref 19]) zd210_0 rfl rfl rfl ?_
    refine z_e1 (pc1 := 2) (L1 := [some (.ref 19), some (.int x1), some (.int x2)]) (S1 := [.int x1, .ref 19]) zd210_1 rfl rfl rfl ?_
    refine z_ecV (vs := [.ref 19, .int x1]) (r := []) (L2 := [some (.ref 19), some (.int x1)]) zd210_2 zcV210_209 (Or.inl rfl) rfl b19 (by decide) rfl rfl rfl (Nat.le_of_ble_eq_true rfl) zm209 (Nat.le_of_ble_eq_true rfl) rfl ?_
    refine z_e1 (pc1 := 1) (L1 := [some (.ref 19), some (.int x1)]) (S1 := [.int x1]) zd209_0 rfl rfl rfl ?_
    refine z_ez (t := 16) (t2 := 16) zd209_1 rfl (z_b_ltx1 (k := 0) (by decide) (show x1.toInt < 0 from by omega)) ?_
    refine z_e1 (pc1 := 17) (L1 := [some (.ref 19), some (.int x1)]) (S1 := [.int 0]) zd209_16 rfl rfl rfl ?_
    refine z_erz zd209_17 zr209 (by decide) ?_
    show z_ev _ 210 5 [some (.ref 19), some (.int x1), some (.int x2)] [.int 0] _ _
    refine z_ez (t := 37) (t2 := 37) zd210_5 rfl rfl ?_
    refine z_e1 (pc1 := 38) (L1 := [some (.ref 19), some (.int x1), some (.int x2)]) (S1 := [.int (-1)]) zd210_37 rfl rfl rfl ?_
    refine z_eri zd210_38 zr210 ?_
    show z_ev _ 0 307 [some (.ref 0), some (.ref 4), some (.ref 19), some (.int 0)] [.int (-1), .int (-1)] _ _
    refine z_ej (t := 1775) (t2 := 1775) zd0_307 rfl rfl ?_
    refine z_e1 (pc1 := 1778) (L1 := [some (.ref 0), some (.ref 4), some (.ref 19), some (.int 6)]) (S1 := []) zd0_1775 rfl rfl rfl ?_
    refine z_e1 (pc1 := 18) (L1 := [some (.ref 0), some (.ref 4), some (.ref 19), some (.int 6)]) (S1 := []) zd0_1778 rfl rfl rfl ?_
    refine z_e1 (pc1 := 19) (L1 := [some (.ref 0), some (.ref 4), some (.ref 19), some (.int 6)]) (S1 := [.int 6]) zd0_18 rfl rfl rfl ?_
    refine z_e1 (pc1 := 20) (L1 := [some (.ref 0), some (.ref 4), some (.ref 19), some (.int 6)]) (S1 := [.ref 0, .int 6]) zd0_19 rfl rfl rfl ?_
    refine z_ealn (y := 6) zd0_20 h0 rfl ?_
    refine z_e1 (pc1 := 23) (L1 := [some (.ref 0), some (.ref 4), some (.ref 19), some (.int 6)]) (S1 := [.int 6, .int 6, .int 6]) zd0_21 rfl rfl rfl ?_
    refine z_e1 (pc1 := 24) (L1 := [some (.ref 0), some (.ref 4), some (.ref 19), some (.int 6)]) (S1 := [.int 0, .int 6]) zd0_23 rfl rfl rfl ?_
    refine z_ej (t := 1781) (t2 := 1781) zd0_24 rfl rfl ?_
    refine z_e1 (pc1 := 1782) (L1 := [some (.ref 0), some (.ref 4), some (.ref 19), some (.int 6)]) (S1 := [.int 1]) zd0_1781 rfl rfl rfl ?_
    refine z_erz zd0_1782 zr0 (by decide) ?_
    exact z_K1i hN hS (by decide) (by decide)
  · refine z_ez (t := 12) (t2 := 4) zd37_1 rfl (z_b_ltx0 (k := 0) (by decide) e1) ?_
    refine z_e1 (pc1 := 5) (L1 := [some (.ref 4), some (.int x1)]) (S1 := [.int x1]) zd37_4 rfl rfl rfl ?_
    refine z_e1 (pc1 := 6) (L1 := [some (.ref 4), some (.int x1)]) (S1 := [.ref 4, .int x1]) zd37_5 rfl rfl rfl ?_
    refine z_egf (fs := [.ref 5, .ref 10, .ref 11, .int 0, .ref 12, .int 0, .ref 13, .ref 14, .ref 15, .ref 16, .ref 17, .ref 18, .null]) (v := .int 0) zd37_6 zf37_59 b4 (by decide) (by decide) rfl ?_
    refine z_ej (t := 16) (t2 := 12) zd37_9 rfl (z_b_ltx0 (k := 0) (by decide) (show ¬ x1.toInt < 0 from by omega)) ?_
    refine z_e1 (pc1 := 13) (L1 := [some (.ref 4), some (.int x1)]) (S1 := [.null]) zd37_12 rfl rfl rfl ?_
    refine z_e1 (pc1 := 25) (L1 := [some (.ref 4), some (.int x1)]) (S1 := [.null]) zd37_13 rfl rfl rfl ?_
    refine z_ern zd37_25 zr37 ?_
    show z_ev _ 36 5 [some (.ref 4), some (.int x1), some (.int x2), none] [.null] _ _
    refine z_e1 (pc1 := 6) (L1 := [some (.ref 4), some (.int x1), some (.int x2), some (.null)]) (S1 := []) zd36_5 rfl rfl rfl ?_
    refine z_e1 (pc1 := 7) (L1 := [some (.ref 4), some (.int x1), some (.int x2), some (.null)]) (S1 := [.null]) zd36_6 rfl rfl rfl ?_
    refine z_e1 (pc1 := 23) (L1 := [some (.ref 4), some (.int x1), some (.int x2), some (.null)]) (S1 := []) zd36_7 rfl rfl rfl ?_
    refine z_e1 (pc1 := 24) (L1 := [some (.ref 4), some (.int x1), some (.int x2), some (.null)]) (S1 := [.int (-1)]) zd36_23 rfl rfl rfl ?_
    refine z_eri zd36_24 zr36 ?_
    show z_ev _ 0 293 [some (.ref 0), some (.ref 4), some (.ref 19), some (.int 0)] [.int (-1)] _ _
    refine z_e1 (pc1 := 294) (L1 := [some (.ref 0), some (.ref 4), some (.ref 19), some (.int 0)]) (S1 := [.ref 19, .int (-1)]) zd0_293 rfl rfl rfl ?_
    refine z_e1 (pc1 := 295) (L1 := [some (.ref 0), some (.ref 4), some (.ref 19), some (.int 0)]) (S1 := [.ref 0, .ref 19, .int (-1)]) zd0_294 rfl rfl rfl ?_
    refine z_e1 (pc1 := 296) (L1 := [some (.ref 0), some (.ref 4), some (.ref 19), some (.int 0)]) (S1 := [.int 0, .ref 0, .ref 19, .int (-1)]) zd0_295 rfl rfl rfl ?_
    refine z_e1 (pc1 := 297) (L1 := [some (.ref 0), some (.ref 4), some (.ref 19), some (.int 0)]) (S1 := [.int 1, .int 0, .ref 0, .ref 19, .int (-1)]) zd0_296 rfl rfl rfl ?_
    refine z_e1 (pc1 := 298) (L1 := [some (.ref 0), some (.ref 4), some (.ref 19), some (.int 0)]) (S1 := [.int 1, .ref 0, .ref 19, .int (-1)]) zd0_297 rfl rfl rfl ?_
    refine z_eial (y := x1) zd0_298 h0 (by decide) g1 ?_
    refine z_e1 (pc1 := 300) (L1 := [some (.ref 0), some (.ref 4), some (.ref 19), some (.int 0)]) (S1 := [.ref 0, .int x1, .ref 19, .int (-1)]) zd0_299 rfl rfl rfl ?_
    refine z_e1 (pc1 := 301) (L1 := [some (.ref 0), some (.ref 4), some (.ref 19), some (.int 0)]) (S1 := [.int 0, .ref 0, .int x1, .ref 19, .int (-1)]) zd0_300 rfl rfl rfl ?_
    refine z_e1 (pc1 := 302) (L1 := [some (.ref 0), some (.ref 4), some (.ref 19), some (.int 0)]) (S1 := [.int 2, .int 0, .ref 0, .int x1, .ref 19, .int (-1)]) zd0_301 rfl rfl rfl ?_
    refine z_e1 (pc1 := 303) (L1 := [some (.ref 0), some (.ref 4), some (.ref 19), some (.int 0)]) (S1 := [.int 2, .ref 0, .int x1, .ref 19, .int (-1)]) zd0_302 rfl rfl rfl ?_
    refine z_eial (y := x2) zd0_303 h0 (by decide) g2 ?_
    refine z_ecV (vs := [.ref 19, .int x1, .int x2]) (r := [.int (-1)]) (L2 := [some (.ref 19), some (.int x1), some (.int x2)]) zd0_304 zcV0_30 (Or.inl rfl) rfl b19 (by decide) rfl rfl rfl (Nat.le_of_ble_eq_true rfl) zm210 (Nat.le_of_ble_eq_true rfl) rfl ?_
    refine z_e1 (pc1 := 1) (L1 := [some (.ref 19), some (.int x1), some (.int x2)]) (S1 := [.ref 19]) zd210_0 rfl rfl rfl ?_
    refine z_e1 (pc1 := 2) (L1 := [some (.ref 19), some (.int x1), some (.int x2)]) (S1 := [.int x1, .ref 19]) zd210_1 rfl rfl rfl ?_
    refine z_ecV (vs := [.ref 19, .int x1]) (r := []) (L2 := [some (.ref 19), some (.int x1)]) zd210_2 zcV210_209 (Or.inl rfl) rfl b19 (by decide) rfl rfl rfl (Nat.le_of_ble_eq_true rfl) zm209 (Nat.le_of_ble_eq_true rfl) rfl ?_
    refine z_e1 (pc1 := 1) (L1 := [some (.ref 19), some (.int x1)]) (S1 := [.int x1]) zd209_0 rfl rfl rfl ?_
    refine z_ez (t := 16) (t2 := 4) zd209_1 rfl (z_b_ltx0 (k := 0) (by decide) (show ¬ x1.toInt < 0 from by omega)) ?_
    refine z_e1 (pc1 := 5) (L1 := [some (.ref 19), some (.int x1)]) (S1 := [.int x1]) zd209_4 rfl rfl rfl ?_
    refine z_e1 (pc1 := 6) (L1 := [some (.ref 19), some (.int x1)]) (S1 := [.ref 19, .int x1]) zd209_5 rfl rfl rfl ?_
    refine z_egf (fs := [.ref 20, .int 0, .ref 21, .ref 22, .ref 23, .ref 24, .ref 25, .ref 26, .ref 27, .ref 28, .ref 29, .ref 30, .ref 31, .int 0, .ref 32, .ref 33, .ref 34, .ref 35, .ref 36, .ref 37, .ref 38, .int 0, .int 0, .int 0, .int 0, .int 0, .int 0, .int 0, .int 0, .int 0, .int 0, .ref 39, .ref 40, .ref 41, .int 0, .int 0, .ref 42, .ref 43, .ref 44, .ref 45, .ref 46, .int 0, .ref 47, .int 0, .int 0, .int 0, .ref 48, .int 0, .int 0, .ref 49, .ref 50, .ref 51, .ref 52]) (v := .int 0) zd209_6 zf209_110 b19 (by decide) (by decide) rfl ?_
    refine z_ej (t := 16) (t2 := 16) zd209_9 rfl (z_b_gex0 (k := 0) (by decide) (show ¬ x1.toInt < 0 from by omega)) ?_
    refine z_e1 (pc1 := 17) (L1 := [some (.ref 19), some (.int x1)]) (S1 := [.int 0]) zd209_16 rfl rfl rfl ?_
    refine z_erz zd209_17 zr209 (by decide) ?_
    show z_ev _ 210 5 [some (.ref 19), some (.int x1), some (.int x2)] [.int 0] _ _
    refine z_ez (t := 37) (t2 := 37) zd210_5 rfl rfl ?_
    refine z_e1 (pc1 := 38) (L1 := [some (.ref 19), some (.int x1), some (.int x2)]) (S1 := [.int (-1)]) zd210_37 rfl rfl rfl ?_
    refine z_eri zd210_38 zr210 ?_
    show z_ev _ 0 307 [some (.ref 0), some (.ref 4), some (.ref 19), some (.int 0)] [.int (-1), .int (-1)] _ _
    refine z_ej (t := 1775) (t2 := 1775) zd0_307 rfl rfl ?_
    refine z_e1 (pc1 := 1778) (L1 := [some (.ref 0), some (.ref 4), some (.ref 19), some (.int 6)]) (S1 := []) zd0_1775 rfl rfl rfl ?_
    refine z_e1 (pc1 := 18) (L1 := [some (.ref 0), some (.ref 4), some (.ref 19), some (.int 6)]) (S1 := []) zd0_1778 rfl rfl rfl ?_
    refine z_e1 (pc1 := 19) (L1 := [some (.ref 0), some (.ref 4), some (.ref 19), some (.int 6)]) (S1 := [.int 6]) zd0_18 rfl rfl rfl ?_
    refine z_e1 (pc1 := 20) (L1 := [some (.ref 0), some (.ref 4), some (.ref 19), some (.int 6)]) (S1 := [.ref 0, .int 6]) zd0_19 rfl rfl rfl ?_
    refine z_ealn (y := 6) zd0_20 h0 rfl ?_
    refine z_e1 (pc1 := 23) (L1 := [some (.ref 0), some (.ref 4), some (.ref 19), some (.int 6)]) (S1 := [.int 6, .int 6, .int 6]) zd0_21 rfl rfl rfl ?_
    refine z_e1 (pc1 := 24) (L1 := [some (.ref 0), some (.ref 4), some (.ref 19), some (.int 6)]) (S1 := [.int 0, .int 6]) zd0_23 rfl rfl rfl ?_
    refine z_ej (t := 1781) (t2 := 1781) zd0_24 rfl rfl ?_
    refine z_e1 (pc1 := 1782) (L1 := [some (.ref 0), some (.ref 4), some (.ref 19), some (.int 6)]) (S1 := [.int 1]) zd0_1781 rfl rfl rfl ?_
    refine z_erz zd0_1782 zr0 (by decide) ?_
    exact z_K1i hN hS (by decide) (by decide)
theorem z_C4 {M : zH} {xs : Nat → Int32} {x1 x2 x3 x4 x5 : Int32} (h0 : M[0]? = some (.inl (0, 6, .inl xs))) (hN : M.length = 53) (hS : z_sz M ≤ 50000) (hB : z_fr M 4 53) (g1 : xs 1 = x1) (g2 : xs 2 = x2) (g3 : xs 3 = x3) (g4 : xs 4 = x4) (g5 : xs 5 = x5) : z_ev 2047 0 312 [some (.ref 0), some (.ref 4), some (.ref 19), some (.int 0)] [] M z_K1 := by
  have b4 := z_qO (hB 4 (by decide) (by decide))
  have b19 := z_qO (hB 19 (by decide) (by decide))
  refine z_e1 (pc1 := 313) (L1 := [some (.ref 0), some (.ref 4), some (.ref 19), some (.int 0)]) (S1 := [.ref 4]) zd0_312 rfl rfl rfl ?_
  refine z_e1 (pc1 := 314) (L1 := [some (.ref 0), some (.ref 4), some (.ref 19), some (.int 0)]) (S1 := [.ref 0, .ref 4]) zd0_313 rfl rfl rfl ?_
  refine z_e1 (pc1 := 315) (L1 := [some (.ref 0), some (.ref 4), some (.ref 19), some (.int 0)]) (S1 := [.int 0, .ref 0, .ref 4]) zd0_314 rfl rfl rfl ?_
  refine z_e1 (pc1 := 316) (L1 := [some (.ref 0), some (.ref 4), some (.ref 19), some (.int 0)]) (S1 := [.int 1, .int 0, .ref 0, .ref 4]) zd0_315 rfl rfl rfl ?_
  refine z_e1 (pc1 := 317) (L1 := [some (.ref 0), some (.ref 4), some (.ref 19), some (.int 0)]) (S1 := [.int 1, .ref 0, .ref 4]) zd0_316 rfl rfl rfl ?_
  refine z_eial (y := x1) zd0_317 h0 (by decide) g1 ?_
  refine z_e1 (pc1 := 319) (L1 := [some (.ref 0), some (.ref 4), some (.ref 19), some (.int 0)]) (S1 := [.ref 0, .int x1, .ref 4]) zd0_318 rfl rfl rfl ?_
  refine z_e1 (pc1 := 320) (L1 := [some (.ref 0), some (.ref 4), some (.ref 19), some (.int 0)]) (S1 := [.int 0, .ref 0, .int x1, .ref 4]) zd0_319 rfl rfl rfl ?_
  refine z_e1 (pc1 := 321) (L1 := [some (.ref 0), some (.ref 4), some (.ref 19), some (.int 0)]) (S1 := [.int 2, .int 0, .ref 0, .int x1, .ref 4]) zd0_320 rfl rfl rfl ?_
  refine z_e1 (pc1 := 322) (L1 := [some (.ref 0), some (.ref 4), some (.ref 19), some (.int 0)]) (S1 := [.int 2, .ref 0, .int x1, .ref 4]) zd0_321 rfl rfl rfl ?_
  refine z_eial (y := x2) zd0_322 h0 (by decide) g2 ?_
  refine z_ecV (vs := [.ref 4, .int x1, .int x2]) (r := []) (L2 := [some (.ref 4), some (.int x1), some (.int x2), none]) zd0_323 zcV0_31 (Or.inl rfl) rfl b4 (by decide) rfl rfl rfl (Nat.le_of_ble_eq_true rfl) zm38 (Nat.le_of_ble_eq_true rfl) rfl ?_
  refine z_e1 (pc1 := 1) (L1 := [some (.ref 4), some (.int x1), some (.int x2), none]) (S1 := [.ref 4]) zd38_0 rfl rfl rfl ?_
  refine z_e1 (pc1 := 2) (L1 := [some (.ref 4), some (.int x1), some (.int x2), none]) (S1 := [.int x1, .ref 4]) zd38_1 rfl rfl rfl ?_
  refine z_ecV (vs := [.ref 4, .int x1]) (r := []) (L2 := [some (.ref 4), some (.int x1)]) zd38_2 zcV38_108 (Or.inl rfl) rfl b4 (by decide) rfl rfl rfl (Nat.le_of_ble_eq_true rfl) zm37 (Nat.le_of_ble_eq_true rfl) rfl ?_
  refine z_e1 (pc1 := 1) (L1 := [some (.ref 4), some (.int x1)]) (S1 := [.int x1]) zd37_0 rfl rfl rfl ?_
  by_cases e1 : x1.toInt < 0
  · refine z_ez (t := 12) (t2 := 12) zd37_1 rfl (z_b_ltx1 (k := 0) (by decide) e1) ?_
    refine z_e1 (pc1 := 13) (L1 := [some (.ref 4), some (.int x1)]) (S1 := [.null]) zd37_12 rfl rfl rfl ?_
    refine z_e1 (pc1 := 25) (L1 := [some (.ref 4), some (.int x1)]) (S1 := [.null]) zd37_13 rfl rfl rfl ?_
    refine z_ern zd37_25 zr37 ?_
    show z_ev _ 38 5 [some (.ref 4), some (.int x1), some (.int x2), none] [.null] _ _
    refine z_e1 (pc1 := 6) (L1 := [some (.ref 4), some (.int x1), some (.int x2), some (.null)]) (S1 := []) zd38_5 rfl rfl rfl ?_
    refine z_e1 (pc1 := 7) (L1 := [some (.ref 4), some (.int x1), some (.int x2), some (.null)]) (S1 := [.null]) zd38_6 rfl rfl rfl ?_
    refine z_e1 (pc1 := 18) (L1 := [some (.ref 4), some (.int x1), some (.int x2), some (.null)]) (S1 := []) zd38_7 rfl rfl rfl ?_
    refine z_e1 (pc1 := 19) (L1 := [some (.ref 4), some (.int x1), some (.int x2), some (.null)]) (S1 := [.int (-1)]) zd38_18 rfl rfl rfl ?_
    refine z_eri zd38_19 zr38 ?_
    show z_ev _ 0 326 [some (.ref 0), some (.ref 4), some (.ref 19), some (.int 0)] [.int (-1)] _ _
    refine z_e1 (pc1 := 327) (L1 := [some (.ref 0), some (.ref 4), some (.ref 19), some (.int 0)]) (S1 := [.ref 19, .int (-1)]) zd0_326 rfl rfl rfl ?_
    refine z_e1 (pc1 := 328) (L1 := [some (.ref 0), some (.ref 4), some (.ref 19), some (.int 0)]) (S1 := [.ref 0, .ref 19, .int (-1)]) zd0_327 rfl rfl rfl ?_
    refine z_e1 (pc1 := 329) (L1 := [some (.ref 0), some (.ref 4), some (.ref 19), some (.int 0)]) (S1 := [.int 0, .ref 0, .ref 19, .int (-1)]) zd0_328 rfl rfl rfl ?_
    refine z_e1 (pc1 := 330) (L1 := [some (.ref 0), some (.ref 4), some (.ref 19), some (.int 0)]) (S1 := [.int 1, .int 0, .ref 0, .ref 19, .int (-1)]) zd0_329 rfl rfl rfl ?_
    refine z_e1 (pc1 := 331) (L1 := [some (.ref 0), some (.ref 4), some (.ref 19), some (.int 0)]) (S1 := [.int 1, .ref 0, .ref 19, .int (-1)]) zd0_330 rfl rfl rfl ?_
    refine z_eial (y := x1) zd0_331 h0 (by decide) g1 ?_
    refine z_e1 (pc1 := 333) (L1 := [some (.ref 0), some (.ref 4), some (.ref 19), some (.int 0)]) (S1 := [.ref 0, .int x1, .ref 19, .int (-1)]) zd0_332 rfl rfl rfl ?_
    refine z_e1 (pc1 := 334) (L1 := [some (.ref 0), some (.ref 4), some (.ref 19), some (.int 0)]) (S1 := [.int 0, .ref 0, .int x1, .ref 19, .int (-1)]) zd0_333 rfl rfl rfl ?_
    refine z_e1 (pc1 := 335) (L1 := [some (.ref 0), some (.ref 4), some (.ref 19), some (.int 0)]) (S1 := [.int 2, .int 0, .ref 0, .int x1, .ref 19, .int (-1)]) zd0_334 rfl rfl rfl ?_
    refine z_e1 (pc1 := 336) (L1 := [some (.ref 0), some (.ref 4), some (.ref 19), some (.int 0)]) (S1 := [.int 2, .ref 0, .int x1, .ref 19, .int (-1)]) zd0_335 rfl rfl rfl ?_
    refine z_eial (y := x2) zd0_336 h0 (by decide) g2 ?_
    refine z_ecV (vs := [.ref 19, .int x1, .int x2]) (r := [.int (-1)]) (L2 := [some (.ref 19), some (.int x1), some (.int x2)]) zd0_337 zcV0_34 (Or.inl rfl) rfl b19 (by decide) rfl rfl rfl (Nat.le_of_ble_eq_true rfl) zm211 (Nat.le_of_ble_eq_true rfl) rfl ?_
    refine z_e1 (pc1 := 1) (L1 := [some (.ref 19), some (.int x1), some (.int x2)]) (S1 := [.ref 19]) zd211_0 rfl rfl rfl ?_
    refine z_e1 (pc1 := 2) (L1 := [some (.ref 19), some (.int x1), some (.int x2)]) (S1 := [.int x1, .ref 19]) zd211_1 rfl rfl rfl ?_
    refine z_ecV (vs := [.ref 19, .int x1]) (r := []) (L2 := [some (.ref 19), some (.int x1)]) zd211_2 zcV211_209 (Or.inl rfl) rfl b19 (by decide) rfl rfl rfl (Nat.le_of_ble_eq_true rfl) zm209 (Nat.le_of_ble_eq_true rfl) rfl ?_
    refine z_e1 (pc1 := 1) (L1 := [some (.ref 19), some (.int x1)]) (S1 := [.int x1]) zd209_0 rfl rfl rfl ?_
    refine z_ez (t := 16) (t2 := 16) zd209_1 rfl (z_b_ltx1 (k := 0) (by decide) (show x1.toInt < 0 from by omega)) ?_
    refine z_e1 (pc1 := 17) (L1 := [some (.ref 19), some (.int x1)]) (S1 := [.int 0]) zd209_16 rfl rfl rfl ?_
    refine z_erz zd209_17 zr209 (by decide) ?_
    show z_ev _ 211 5 [some (.ref 19), some (.int x1), some (.int x2)] [.int 0] _ _
    refine z_ez (t := 32) (t2 := 32) zd211_5 rfl rfl ?_
    refine z_e1 (pc1 := 33) (L1 := [some (.ref 19), some (.int x1), some (.int x2)]) (S1 := [.int (-1)]) zd211_32 rfl rfl rfl ?_
    refine z_eri zd211_33 zr211 ?_
    show z_ev _ 0 340 [some (.ref 0), some (.ref 4), some (.ref 19), some (.int 0)] [.int (-1), .int (-1)] _ _
    refine z_ej (t := 1775) (t2 := 1775) zd0_340 rfl rfl ?_
    refine z_e1 (pc1 := 1778) (L1 := [some (.ref 0), some (.ref 4), some (.ref 19), some (.int 6)]) (S1 := []) zd0_1775 rfl rfl rfl ?_
    refine z_e1 (pc1 := 18) (L1 := [some (.ref 0), some (.ref 4), some (.ref 19), some (.int 6)]) (S1 := []) zd0_1778 rfl rfl rfl ?_
    refine z_e1 (pc1 := 19) (L1 := [some (.ref 0), some (.ref 4), some (.ref 19), some (.int 6)]) (S1 := [.int 6]) zd0_18 rfl rfl rfl ?_
    refine z_e1 (pc1 := 20) (L1 := [some (.ref 0), some (.ref 4), some (.ref 19), some (.int 6)]) (S1 := [.ref 0, .int 6]) zd0_19 rfl rfl rfl ?_
    refine z_ealn (y := 6) zd0_20 h0 rfl ?_
    refine z_e1 (pc1 := 23) (L1 := [some (.ref 0), some (.ref 4), some (.ref 19), some (.int 6)]) (S1 := [.int 6, .int 6, .int 6]) zd0_21 rfl rfl rfl ?_
    refine z_e1 (pc1 := 24) (L1 := [some (.ref 0), some (.ref 4), some (.ref 19), some (.int 6)]) (S1 := [.int 0, .int 6]) zd0_23 rfl rfl rfl ?_
    refine z_ej (t := 1781) (t2 := 1781) zd0_24 rfl rfl ?_
    refine z_e1 (pc1 := 1782) (L1 := [some (.ref 0), some (.ref 4), some (.ref 19), some (.int 6)]) (S1 := [.int 1]) zd0_1781 rfl rfl rfl ?_
    refine z_erz zd0_1782 zr0 (by decide) ?_
    exact z_K1i hN hS (by decide) (by decide)
  · refine z_ez (t := 12) (t2 := 4) zd37_1 rfl (z_b_ltx0 (k := 0) (by decide) e1) ?_
    refine z_e1 (pc1 := 5) (L1 := [some (.ref 4), some (.int x1)]) (S1 := [.int x1]) zd37_4 rfl rfl rfl ?_
    refine z_e1 (pc1 := 6) (L1 := [some (.ref 4), some (.int x1)]) (S1 := [.ref 4, .int x1]) zd37_5 rfl rfl rfl ?_
    refine z_egf (fs := [.ref 5, .ref 10, .ref 11, .int 0, .ref 12, .int 0, .ref 13, .ref 14, .ref 15, .ref 16, .ref 17, .ref 18, .null]) (v := .int 0) zd37_6 zf37_59 b4 (by decide) (by decide) rfl ?_
    refine z_ej (t := 16) (t2 := 12) zd37_9 rfl (z_b_ltx0 (k := 0) (by decide) (show ¬ x1.toInt < 0 from by omega)) ?_
    refine z_e1 (pc1 := 13) (L1 := [some (.ref 4), some (.int x1)]) (S1 := [.null]) zd37_12 rfl rfl rfl ?_
    refine z_e1 (pc1 := 25) (L1 := [some (.ref 4), some (.int x1)]) (S1 := [.null]) zd37_13 rfl rfl rfl ?_
    refine z_ern zd37_25 zr37 ?_
    show z_ev _ 38 5 [some (.ref 4), some (.int x1), some (.int x2), none] [.null] _ _
    refine z_e1 (pc1 := 6) (L1 := [some (.ref 4), some (.int x1), some (.int x2), some (.null)]) (S1 := []) zd38_5 rfl rfl rfl ?_
    refine z_e1 (pc1 := 7) (L1 := [some (.ref 4), some (.int x1), some (.int x2), some (.null)]) (S1 := [.null]) zd38_6 rfl rfl rfl ?_
    refine z_e1 (pc1 := 18) (L1 := [some (.ref 4), some (.int x1), some (.int x2), some (.null)]) (S1 := []) zd38_7 rfl rfl rfl ?_
    refine z_e1 (pc1 := 19) (L1 := [some (.ref 4), some (.int x1), some (.int x2), some (.null)]) (S1 := [.int (-1)]) zd38_18 rfl rfl rfl ?_
    refine z_eri zd38_19 zr38 ?_
    show z_ev _ 0 326 [some (.ref 0), some (.ref 4), some (.ref 19), some (.int 0)] [.int (-1)] _ _
    refine z_e1 (pc1 := 327) (L1 := [some (.ref 0), some (.ref 4), some (.ref 19), some (.int 0)]) (S1 := [.ref 19, .int (-1)]) zd0_326 rfl rfl rfl ?_
    refine z_e1 (pc1 := 328) (L1 := [some (.ref 0), some (.ref 4), some (.ref 19), some (.int 0)]) (S1 := [.ref 0, .ref 19, .int (-1)]) zd0_327 rfl rfl rfl ?_
    refine z_e1 (pc1 := 329) (L1 := [some (.ref 0), some (.ref 4), some (.ref 19), some (.int 0)]) (S1 := [.int 0, .ref 0, .ref 19, .int (-1)]) zd0_328 rfl rfl rfl ?_
    refine z_e1 (pc1 := 330) (L1 := [some (.ref 0), some (.ref 4), some (.ref 19), some (.int 0)]) (S1 := [.int 1, .int 0, .ref 0, .ref 19, .int (-1)]) zd0_329 rfl rfl rfl ?_
    refine z_e1 (pc1 := 331) (L1 := [some (.ref 0), some (.ref 4), some (.ref 19), some (.int 0)]) (S1 := [.int 1, .ref 0, .ref 19, .int (-1)]) zd0_330 rfl rfl rfl ?_
    refine z_eial (y := x1) zd0_331 h0 (by decide) g1 ?_
    refine z_e1 (pc1 := 333) (L1 := [some (.ref 0), some (.ref 4), some (.ref 19), some (.int 0)]) (S1 := [.ref 0, .int x1, .ref 19, .int (-1)]) zd0_332 rfl rfl rfl ?_
    refine z_e1 (pc1 := 334) (L1 := [some (.ref 0), some (.ref 4), some (.ref 19), some (.int 0)]) (S1 := [.int 0, .ref 0, .int x1, .ref 19, .int (-1)]) zd0_333 rfl rfl rfl ?_
    refine z_e1 (pc1 := 335) (L1 := [some (.ref 0), some (.ref 4), some (.ref 19), some (.int 0)]) (S1 := [.int 2, .int 0, .ref 0, .int x1, .ref 19, .int (-1)]) zd0_334 rfl rfl rfl ?_
    refine z_e1 (pc1 := 336) (L1 := [some (.ref 0), some (.ref 4), some (.ref 19), some (.int 0)]) (S1 := [.int 2, .ref 0, .int x1, .ref 19, .int (-1)]) zd0_335 rfl rfl rfl ?_
    refine z_eial (y := x2) zd0_336 h0 (by decide) g2 ?_
    refine z_ecV (vs := [.ref 19, .int x1, .int x2]) (r := [.int (-1)]) (L2 := [some (.ref 19), some (.int x1), some (.int x2)]) zd0_337 zcV0_34 (Or.inl rfl) rfl b19 (by decide) rfl rfl rfl (Nat.le_of_ble_eq_true rfl) zm211 (Nat.le_of_ble_eq_true rfl) rfl ?_
    refine z_e1 (pc1 := 1) (L1 := [some (.ref 19), some (.int x1), some (.int x2)]) (S1 := [.ref 19]) zd211_0 rfl rfl rfl ?_
    refine z_e1 (pc1 := 2) (L1 := [some (.ref 19), some (.int x1), some (.int x2)]) (S1 := [.int x1, .ref 19]) zd211_1 rfl rfl rfl ?_
    refine z_ecV (vs := [.ref 19, .int x1]) (r := []) (L2 := [some (.ref 19), some (.int x1)]) zd211_2 zcV211_209 (Or.inl rfl) rfl b19 (by decide) rfl rfl rfl (Nat.le_of_ble_eq_true rfl) zm209 (Nat.le_of_ble_eq_true rfl) rfl ?_
    refine z_e1 (pc1 := 1) (L1 := [some (.ref 19), some (.int x1)]) (S1 := [.int x1]) zd209_0 rfl rfl rfl ?_
    refine z_ez (t := 16) (t2 := 4) zd209_1 rfl (z_b_ltx0 (k := 0) (by decide) (show ¬ x1.toInt < 0 from by omega)) ?_
    refine z_e1 (pc1 := 5) (L1 := [some (.ref 19), some (.int x1)]) (S1 := [.int x1]) zd209_4 rfl rfl rfl ?_
    refine z_e1 (pc1 := 6) (L1 := [some (.ref 19), some (.int x1)]) (S1 := [.ref 19, .int x1]) zd209_5 rfl rfl rfl ?_
    refine z_egf (fs := [.ref 20, .int 0, .ref 21, .ref 22, .ref 23, .ref 24, .ref 25, .ref 26, .ref 27, .ref 28, .ref 29, .ref 30, .ref 31, .int 0, .ref 32, .ref 33, .ref 34, .ref 35, .ref 36, .ref 37, .ref 38, .int 0, .int 0, .int 0, .int 0, .int 0, .int 0, .int 0, .int 0, .int 0, .int 0, .ref 39, .ref 40, .ref 41, .int 0, .int 0, .ref 42, .ref 43, .ref 44, .ref 45, .ref 46, .int 0, .ref 47, .int 0, .int 0, .int 0, .ref 48, .int 0, .int 0, .ref 49, .ref 50, .ref 51, .ref 52]) (v := .int 0) zd209_6 zf209_110 b19 (by decide) (by decide) rfl ?_
    refine z_ej (t := 16) (t2 := 16) zd209_9 rfl (z_b_gex0 (k := 0) (by decide) (show ¬ x1.toInt < 0 from by omega)) ?_
    refine z_e1 (pc1 := 17) (L1 := [some (.ref 19), some (.int x1)]) (S1 := [.int 0]) zd209_16 rfl rfl rfl ?_
    refine z_erz zd209_17 zr209 (by decide) ?_
    show z_ev _ 211 5 [some (.ref 19), some (.int x1), some (.int x2)] [.int 0] _ _
    refine z_ez (t := 32) (t2 := 32) zd211_5 rfl rfl ?_
    refine z_e1 (pc1 := 33) (L1 := [some (.ref 19), some (.int x1), some (.int x2)]) (S1 := [.int (-1)]) zd211_32 rfl rfl rfl ?_
    refine z_eri zd211_33 zr211 ?_
    show z_ev _ 0 340 [some (.ref 0), some (.ref 4), some (.ref 19), some (.int 0)] [.int (-1), .int (-1)] _ _
    refine z_ej (t := 1775) (t2 := 1775) zd0_340 rfl rfl ?_
    refine z_e1 (pc1 := 1778) (L1 := [some (.ref 0), some (.ref 4), some (.ref 19), some (.int 6)]) (S1 := []) zd0_1775 rfl rfl rfl ?_
    refine z_e1 (pc1 := 18) (L1 := [some (.ref 0), some (.ref 4), some (.ref 19), some (.int 6)]) (S1 := []) zd0_1778 rfl rfl rfl ?_
    refine z_e1 (pc1 := 19) (L1 := [some (.ref 0), some (.ref 4), some (.ref 19), some (.int 6)]) (S1 := [.int 6]) zd0_18 rfl rfl rfl ?_
    refine z_e1 (pc1 := 20) (L1 := [some (.ref 0), some (.ref 4), some (.ref 19), some (.int 6)]) (S1 := [.ref 0, .int 6]) zd0_19 rfl rfl rfl ?_
    refine z_ealn (y := 6) zd0_20 h0 rfl ?_
    refine z_e1 (pc1 := 23) (L1 := [some (.ref 0), some (.ref 4), some (.ref 19), some (.int 6)]) (S1 := [.int 6, .int 6, .int 6]) zd0_21 rfl rfl rfl ?_
    refine z_e1 (pc1 := 24) (L1 := [some (.ref 0), some (.ref 4), some (.ref 19), some (.int 6)]) (S1 := [.int 0, .int 6]) zd0_23 rfl rfl rfl ?_
    refine z_ej (t := 1781) (t2 := 1781) zd0_24 rfl rfl ?_
    refine z_e1 (pc1 := 1782) (L1 := [some (.ref 0), some (.ref 4), some (.ref 19), some (.int 6)]) (S1 := [.int 1]) zd0_1781 rfl rfl rfl ?_
    refine z_erz zd0_1782 zr0 (by decide) ?_
    exact z_K1i hN hS (by decide) (by decide)
theorem z_C5 {M : zH} {xs : Nat → Int32} {x1 x2 x3 x4 x5 : Int32} (h0 : M[0]? = some (.inl (0, 6, .inl xs))) (hN : M.length = 53) (hS : z_sz M ≤ 50000) (hB : z_fr M 4 53) (g1 : xs 1 = x1) (g2 : xs 2 = x2) (g3 : xs 3 = x3) (g4 : xs 4 = x4) (g5 : xs 5 = x5) : z_ev 2047 0 345 [some (.ref 0), some (.ref 4), some (.ref 19), some (.int 0)] [] M z_K1 := by
  have b4 := z_qO (hB 4 (by decide) (by decide))
  have b19 := z_qO (hB 19 (by decide) (by decide))
  refine z_e1 (pc1 := 346) (L1 := [some (.ref 0), some (.ref 4), some (.ref 19), some (.int 0)]) (S1 := [.ref 4]) zd0_345 rfl rfl rfl ?_
  refine z_e1 (pc1 := 347) (L1 := [some (.ref 0), some (.ref 4), some (.ref 19), some (.int 0)]) (S1 := [.ref 0, .ref 4]) zd0_346 rfl rfl rfl ?_
  refine z_e1 (pc1 := 348) (L1 := [some (.ref 0), some (.ref 4), some (.ref 19), some (.int 0)]) (S1 := [.int 0, .ref 0, .ref 4]) zd0_347 rfl rfl rfl ?_
  refine z_e1 (pc1 := 349) (L1 := [some (.ref 0), some (.ref 4), some (.ref 19), some (.int 0)]) (S1 := [.int 1, .int 0, .ref 0, .ref 4]) zd0_348 rfl rfl rfl ?_
  refine z_e1 (pc1 := 350) (L1 := [some (.ref 0), some (.ref 4), some (.ref 19), some (.int 0)]) (S1 := [.int 1, .ref 0, .ref 4]) zd0_349 rfl rfl rfl ?_
  refine z_eial (y := x1) zd0_350 h0 (by decide) g1 ?_
  refine z_e1 (pc1 := 352) (L1 := [some (.ref 0), some (.ref 4), some (.ref 19), some (.int 0)]) (S1 := [.ref 0, .int x1, .ref 4]) zd0_351 rfl rfl rfl ?_
  refine z_e1 (pc1 := 353) (L1 := [some (.ref 0), some (.ref 4), some (.ref 19), some (.int 0)]) (S1 := [.int 0, .ref 0, .int x1, .ref 4]) zd0_352 rfl rfl rfl ?_
  refine z_e1 (pc1 := 354) (L1 := [some (.ref 0), some (.ref 4), some (.ref 19), some (.int 0)]) (S1 := [.int 2, .int 0, .ref 0, .int x1, .ref 4]) zd0_353 rfl rfl rfl ?_
  refine z_e1 (pc1 := 355) (L1 := [some (.ref 0), some (.ref 4), some (.ref 19), some (.int 0)]) (S1 := [.int 2, .ref 0, .int x1, .ref 4]) zd0_354 rfl rfl rfl ?_
  refine z_eial (y := x2) zd0_355 h0 (by decide) g2 ?_
  refine z_e1 (pc1 := 357) (L1 := [some (.ref 0), some (.ref 4), some (.ref 19), some (.int 0)]) (S1 := [.ref 0, .int x2, .int x1, .ref 4]) zd0_356 rfl rfl rfl ?_
  refine z_e1 (pc1 := 358) (L1 := [some (.ref 0), some (.ref 4), some (.ref 19), some (.int 0)]) (S1 := [.int 0, .ref 0, .int x2, .int x1, .ref 4]) zd0_357 rfl rfl rfl ?_
  refine z_e1 (pc1 := 359) (L1 := [some (.ref 0), some (.ref 4), some (.ref 19), some (.int 0)]) (S1 := [.int 3, .int 0, .ref 0, .int x2, .int x1, .ref 4]) zd0_358 rfl rfl rfl ?_
  refine z_e1 (pc1 := 360) (L1 := [some (.ref 0), some (.ref 4), some (.ref 19), some (.int 0)]) (S1 := [.int 3, .ref 0, .int x2, .int x1, .ref 4]) zd0_359 rfl rfl rfl ?_
  refine z_eial (y := x3) zd0_360 h0 (by decide) g3 ?_
  refine z_ecV (vs := [.ref 4, .int x1, .int x2, .int x3]) (r := []) (L2 := [some (.ref 4), some (.int x1), some (.int x2), some (.int x3), none]) zd0_361 zcV0_35 (Or.inl rfl) rfl b4 (by decide) rfl rfl rfl (Nat.le_of_ble_eq_true rfl) zm42 (Nat.le_of_ble_eq_true rfl) rfl ?_
  refine z_e1 (pc1 := 1) (L1 := [some (.ref 4), some (.int x1), some (.int x2), some (.int x3), none]) (S1 := [.ref 4]) zd42_0 rfl rfl rfl ?_
  refine z_e1 (pc1 := 2) (L1 := [some (.ref 4), some (.int x1), some (.int x2), some (.int x3), none]) (S1 := [.int x1, .ref 4]) zd42_1 rfl rfl rfl ?_
  refine z_ecV (vs := [.ref 4, .int x1]) (r := []) (L2 := [some (.ref 4), some (.int x1)]) zd42_2 zcV42_108 (Or.inl rfl) rfl b4 (by decide) rfl rfl rfl (Nat.le_of_ble_eq_true rfl) zm37 (Nat.le_of_ble_eq_true rfl) rfl ?_
  refine z_e1 (pc1 := 1) (L1 := [some (.ref 4), some (.int x1)]) (S1 := [.int x1]) zd37_0 rfl rfl rfl ?_
  by_cases e1 : x1.toInt < 0
  · refine z_ez (t := 12) (t2 := 12) zd37_1 rfl (z_b_ltx1 (k := 0) (by decide) e1) ?_
    refine z_e1 (pc1 := 13) (L1 := [some (.ref 4), some (.int x1)]) (S1 := [.null]) zd37_12 rfl rfl rfl ?_
    refine z_e1 (pc1 := 25) (L1 := [some (.ref 4), some (.int x1)]) (S1 := [.null]) zd37_13 rfl rfl rfl ?_
    refine z_ern zd37_25 zr37 ?_
    show z_ev _ 42 5 [some (.ref 4), some (.int x1), some (.int x2), some (.int x3), none] [.null] _ _
    refine z_e1 (pc1 := 7) (L1 := [some (.ref 4), some (.int x1), some (.int x2), some (.int x3), some (.null)]) (S1 := []) zd42_5 rfl rfl rfl ?_
    refine z_e1 (pc1 := 9) (L1 := [some (.ref 4), some (.int x1), some (.int x2), some (.int x3), some (.null)]) (S1 := [.null]) zd42_7 rfl rfl rfl ?_
    refine z_e1 (pc1 := 22) (L1 := [some (.ref 4), some (.int x1), some (.int x2), some (.int x3), some (.null)]) (S1 := []) zd42_9 rfl rfl rfl ?_
    refine z_e1 (pc1 := 23) (L1 := [some (.ref 4), some (.int x1), some (.int x2), some (.int x3), some (.null)]) (S1 := [.int (-1)]) zd42_22 rfl rfl rfl ?_
    refine z_eri zd42_23 zr42 ?_
    show z_ev _ 0 364 [some (.ref 0), some (.ref 4), some (.ref 19), some (.int 0)] [.int (-1)] _ _
    refine z_e1 (pc1 := 365) (L1 := [some (.ref 0), some (.ref 4), some (.ref 19), some (.int 0)]) (S1 := [.ref 19, .int (-1)]) zd0_364 rfl rfl rfl ?_
    refine z_e1 (pc1 := 366) (L1 := [some (.ref 0), some (.ref 4), some (.ref 19), some (.int 0)]) (S1 := [.ref 0, .ref 19, .int (-1)]) zd0_365 rfl rfl rfl ?_
    refine z_e1 (pc1 := 367) (L1 := [some (.ref 0), some (.ref 4), some (.ref 19), some (.int 0)]) (S1 := [.int 0, .ref 0, .ref 19, .int (-1)]) zd0_366 rfl rfl rfl ?_
    refine z_e1 (pc1 := 368) (L1 := [some (.ref 0), some (.ref 4), some (.ref 19), some (.int 0)]) (S1 := [.int 1, .int 0, .ref 0, .ref 19, .int (-1)]) zd0_367 rfl rfl rfl ?_
    refine z_e1 (pc1 := 369) (L1 := [some (.ref 0), some (.ref 4), some (.ref 19), some (.int 0)]) (S1 := [.int 1, .ref 0, .ref 19, .int (-1)]) zd0_368 rfl rfl rfl ?_
    refine z_eial (y := x1) zd0_369 h0 (by decide) g1 ?_
    refine z_e1 (pc1 := 371) (L1 := [some (.ref 0), some (.ref 4), some (.ref 19), some (.int 0)]) (S1 := [.ref 0, .int x1, .ref 19, .int (-1)]) zd0_370 rfl rfl rfl ?_
    refine z_e1 (pc1 := 372) (L1 := [some (.ref 0), some (.ref 4), some (.ref 19), some (.int 0)]) (S1 := [.int 0, .ref 0, .int x1, .ref 19, .int (-1)]) zd0_371 rfl rfl rfl ?_
    refine z_e1 (pc1 := 373) (L1 := [some (.ref 0), some (.ref 4), some (.ref 19), some (.int 0)]) (S1 := [.int 2, .int 0, .ref 0, .int x1, .ref 19, .int (-1)]) zd0_372 rfl rfl rfl ?_
    refine z_e1 (pc1 := 374) (L1 := [some (.ref 0), some (.ref 4), some (.ref 19), some (.int 0)]) (S1 := [.int 2, .ref 0, .int x1, .ref 19, .int (-1)]) zd0_373 rfl rfl rfl ?_
    refine z_eial (y := x2) zd0_374 h0 (by decide) g2 ?_
    refine z_e1 (pc1 := 376) (L1 := [some (.ref 0), some (.ref 4), some (.ref 19), some (.int 0)]) (S1 := [.ref 0, .int x2, .int x1, .ref 19, .int (-1)]) zd0_375 rfl rfl rfl ?_
    refine z_e1 (pc1 := 377) (L1 := [some (.ref 0), some (.ref 4), some (.ref 19), some (.int 0)]) (S1 := [.int 0, .ref 0, .int x2, .int x1, .ref 19, .int (-1)]) zd0_376 rfl rfl rfl ?_
    refine z_e1 (pc1 := 378) (L1 := [some (.ref 0), some (.ref 4), some (.ref 19), some (.int 0)]) (S1 := [.int 3, .int 0, .ref 0, .int x2, .int x1, .ref 19, .int (-1)]) zd0_377 rfl rfl rfl ?_
    refine z_e1 (pc1 := 379) (L1 := [some (.ref 0), some (.ref 4), some (.ref 19), some (.int 0)]) (S1 := [.int 3, .ref 0, .int x2, .int x1, .ref 19, .int (-1)]) zd0_378 rfl rfl rfl ?_
    refine z_eial (y := x3) zd0_379 h0 (by decide) g3 ?_
    refine z_ecV (vs := [.ref 19, .int x1, .int x2, .int x3]) (r := [.int (-1)]) (L2 := [some (.ref 19), some (.int x1), some (.int x2), some (.int x3)]) zd0_380 zcV0_39 (Or.inl rfl) rfl b19 (by decide) rfl rfl rfl (Nat.le_of_ble_eq_true rfl) zm213 (Nat.le_of_ble_eq_true rfl) rfl ?_
    refine z_e1 (pc1 := 1) (L1 := [some (.ref 19), some (.int x1), some (.int x2), some (.int x3)]) (S1 := [.ref 19]) zd213_0 rfl rfl rfl ?_
    refine z_e1 (pc1 := 2) (L1 := [some (.ref 19), some (.int x1), some (.int x2), some (.int x3)]) (S1 := [.int x1, .ref 19]) zd213_1 rfl rfl rfl ?_
    refine z_e1 (pc1 := 3) (L1 := [some (.ref 19), some (.int x1), some (.int x2), some (.int x3)]) (S1 := [.int x2, .int x1, .ref 19]) zd213_2 rfl rfl rfl ?_
    refine z_e1 (pc1 := 4) (L1 := [some (.ref 19), some (.int x1), some (.int x2), some (.int x3)]) (S1 := [.int x3, .int x2, .int x1, .ref 19]) zd213_3 rfl rfl rfl ?_
    refine z_ecV (vs := [.ref 19, .int x1, .int x2, .int x3]) (r := []) (L2 := [some (.ref 19), some (.int x1), some (.int x2), some (.int x3)]) zd213_4 zcV213_219 (Or.inl rfl) rfl b19 (by decide) rfl rfl rfl (Nat.le_of_ble_eq_true rfl) zm214 (Nat.le_of_ble_eq_true rfl) rfl ?_
    refine z_e1 (pc1 := 1) (L1 := [some (.ref 19), some (.int x1), some (.int x2), some (.int x3)]) (S1 := [.ref 19]) zd214_0 rfl rfl rfl ?_
    refine z_e1 (pc1 := 2) (L1 := [some (.ref 19), some (.int x1), some (.int x2), some (.int x3)]) (S1 := [.int x1, .ref 19]) zd214_1 rfl rfl rfl ?_
    refine z_ecV (vs := [.ref 19, .int x1]) (r := []) (L2 := [some (.ref 19), some (.int x1)]) zd214_2 zcV214_209 (Or.inl rfl) rfl b19 (by decide) rfl rfl rfl (Nat.le_of_ble_eq_true rfl) zm209 (Nat.le_of_ble_eq_true rfl) rfl ?_
    refine z_e1 (pc1 := 1) (L1 := [some (.ref 19), some (.int x1)]) (S1 := [.int x1]) zd209_0 rfl rfl rfl ?_
    refine z_ez (t := 16) (t2 := 16) zd209_1 rfl (z_b_ltx1 (k := 0) (by decide) (show x1.toInt < 0 from by omega)) ?_
    refine z_e1 (pc1 := 17) (L1 := [some (.ref 19), some (.int x1)]) (S1 := [.int 0]) zd209_16 rfl rfl rfl ?_
    refine z_erz zd209_17 zr209 (by decide) ?_
    show z_ev _ 214 5 [some (.ref 19), some (.int x1), some (.int x2), some (.int x3)] [.int 0] _ _
    refine z_ez (t := 36) (t2 := 36) zd214_5 rfl rfl ?_
    refine z_e1 (pc1 := 37) (L1 := [some (.ref 19), some (.int x1), some (.int x2), some (.int x3)]) (S1 := [.int 0]) zd214_36 rfl rfl rfl ?_
    refine z_erz zd214_37 zr214 (by decide) ?_
    show z_ev _ 213 7 [some (.ref 19), some (.int x1), some (.int x2), some (.int x3)] [.int 0] _ _
    refine z_ez (t := 12) (t2 := 10) zd213_7 rfl rfl ?_
    refine z_e1 (pc1 := 11) (L1 := [some (.ref 19), some (.int x1), some (.int x2), some (.int x3)]) (S1 := [.int (-1)]) zd213_10 rfl rfl rfl ?_
    refine z_eri zd213_11 zr213 ?_
    show z_ev _ 0 383 [some (.ref 0), some (.ref 4), some (.ref 19), some (.int 0)] [.int (-1), .int (-1)] _ _
    refine z_ej (t := 1775) (t2 := 1775) zd0_383 rfl rfl ?_
    refine z_e1 (pc1 := 1778) (L1 := [some (.ref 0), some (.ref 4), some (.ref 19), some (.int 6)]) (S1 := []) zd0_1775 rfl rfl rfl ?_
    refine z_e1 (pc1 := 18) (L1 := [some (.ref 0), some (.ref 4), some (.ref 19), some (.int 6)]) (S1 := []) zd0_1778 rfl rfl rfl ?_
    refine z_e1 (pc1 := 19) (L1 := [some (.ref 0), some (.ref 4), some (.ref 19), some (.int 6)]) (S1 := [.int 6]) zd0_18 rfl rfl rfl ?_
    refine z_e1 (pc1 := 20) (L1 := [some (.ref 0), some (.ref 4), some (.ref 19), some (.int 6)]) (S1 := [.ref 0, .int 6]) zd0_19 rfl rfl rfl ?_
    refine z_ealn (y := 6) zd0_20 h0 rfl ?_
    refine z_e1 (pc1 := 23) (L1 := [some (.ref 0), some (.ref 4), some (.ref 19), some (.int 6)]) (S1 := [.int 6, .int 6, .int 6]) zd0_21 rfl rfl rfl ?_
    refine z_e1 (pc1 := 24) (L1 := [some (.ref 0), some (.ref 4), some (.ref 19), some (.int 6)]) (S1 := [.int 0, .int 6]) zd0_23 rfl rfl rfl ?_
    refine z_ej (t := 1781) (t2 := 1781) zd0_24 rfl rfl ?_
    refine z_e1 (pc1 := 1782) (L1 := [some (.ref 0), some (.ref 4), some (.ref 19), some (.int 6)]) (S1 := [.int 1]) zd0_1781 rfl rfl rfl ?_
    refine z_erz zd0_1782 zr0 (by decide) ?_
    exact z_K1i hN hS (by decide) (by decide)
  · refine z_ez (t := 12) (t2 := 4) zd37_1 rfl (z_b_ltx0 (k := 0) (by decide) e1) ?_
    refine z_e1 (pc1 := 5) (L1 := [some (.ref 4), some (.int x1)]) (S1 := [.int x1]) zd37_4 rfl rfl rfl ?_
    refine z_e1 (pc1 := 6) (L1 := [some (.ref 4), some (.int x1)]) (S1 := [.ref 4, .int x1]) zd37_5 rfl rfl rfl ?_
    refine z_egf (fs := [.ref 5, .ref 10, .ref 11, .int 0, .ref 12, .int 0, .ref 13, .ref 14, .ref 15, .ref 16, .ref 17, .ref 18, .null]) (v := .int 0) zd37_6 zf37_59 b4 (by decide) (by decide) rfl ?_
    refine z_ej (t := 16) (t2 := 12) zd37_9 rfl (z_b_ltx0 (k := 0) (by decide) (show ¬ x1.toInt < 0 from by omega)) ?_
    refine z_e1 (pc1 := 13) (L1 := [some (.ref 4), some (.int x1)]) (S1 := [.null]) zd37_12 rfl rfl rfl ?_
    refine z_e1 (pc1 := 25) (L1 := [some (.ref 4), some (.int x1)]) (S1 := [.null]) zd37_13 rfl rfl rfl ?_
    refine z_ern zd37_25 zr37 ?_
    show z_ev _ 42 5 [some (.ref 4), some (.int x1), some (.int x2), some (.int x3), none] [.null] _ _
    refine z_e1 (pc1 := 7) (L1 := [some (.ref 4), some (.int x1), some (.int x2), some (.int x3), some (.null)]) (S1 := []) zd42_5 rfl rfl rfl ?_
    refine z_e1 (pc1 := 9) (L1 := [some (.ref 4), some (.int x1), some (.int x2), some (.int x3), some (.null)]) (S1 := [.null]) zd42_7 rfl rfl rfl ?_
    refine z_e1 (pc1 := 22) (L1 := [some (.ref 4), some (.int x1), some (.int x2), some (.int x3), some (.null)]) (S1 := []) zd42_9 rfl rfl rfl ?_
    refine z_e1 (pc1 := 23) (L1 := [some (.ref 4), some (.int x1), some (.int x2), some (.int x3), some (.null)]) (S1 := [.int (-1)]) zd42_22 rfl rfl rfl ?_
    refine z_eri zd42_23 zr42 ?_
    show z_ev _ 0 364 [some (.ref 0), some (.ref 4), some (.ref 19), some (.int 0)] [.int (-1)] _ _
    refine z_e1 (pc1 := 365) (L1 := [some (.ref 0), some (.ref 4), some (.ref 19), some (.int 0)]) (S1 := [.ref 19, .int (-1)]) zd0_364 rfl rfl rfl ?_
    refine z_e1 (pc1 := 366) (L1 := [some (.ref 0), some (.ref 4), some (.ref 19), some (.int 0)]) (S1 := [.ref 0, .ref 19, .int (-1)]) zd0_365 rfl rfl rfl ?_
    refine z_e1 (pc1 := 367) (L1 := [some (.ref 0), some (.ref 4), some (.ref 19), some (.int 0)]) (S1 := [.int 0, .ref 0, .ref 19, .int (-1)]) zd0_366 rfl rfl rfl ?_
    refine z_e1 (pc1 := 368) (L1 := [some (.ref 0), some (.ref 4), some (.ref 19), some (.int 0)]) (S1 := [.int 1, .int 0, .ref 0, .ref 19, .int (-1)]) zd0_367 rfl rfl rfl ?_
    refine z_e1 (pc1 := 369) (L1 := [some (.ref 0), some (.ref 4), some (.ref 19), some (.int 0)]) (S1 := [.int 1, .ref 0, .ref 19, .int (-1)]) zd0_368 rfl rfl rfl ?_
    refine z_eial (y := x1) zd0_369 h0 (by decide) g1 ?_
    refine z_e1 (pc1 := 371) (L1 := [some (.ref 0), some (.ref 4), some (.ref 19), some (.int 0)]) (S1 := [.ref 0, .int x1, .ref 19, .int (-1)]) zd0_370 rfl rfl rfl ?_
    refine z_e1 (pc1 := 372) (L1 := [some (.ref 0), some (.ref 4), some (.ref 19), some (.int 0)]) (S1 := [.int 0, .ref 0, .int x1, .ref 19, .int (-1)]) zd0_371 rfl rfl rfl ?_
    refine z_e1 (pc1 := 373) (L1 := [some (.ref 0), some (.ref 4), some (.ref 19), some (.int 0)]) (S1 := [.int 2, .int 0, .ref 0, .int x1, .ref 19, .int (-1)]) zd0_372 rfl rfl rfl ?_
    refine z_e1 (pc1 := 374) (L1 := [some (.ref 0), some (.ref 4), some (.ref 19), some (.int 0)]) (S1 := [.int 2, .ref 0, .int x1, .ref 19, .int (-1)]) zd0_373 rfl rfl rfl ?_
    refine z_eial (y := x2) zd0_374 h0 (by decide) g2 ?_
    refine z_e1 (pc1 := 376) (L1 := [some (.ref 0), some (.ref 4), some (.ref 19), some (.int 0)]) (S1 := [.ref 0, .int x2, .int x1, .ref 19, .int (-1)]) zd0_375 rfl rfl rfl ?_
    refine z_e1 (pc1 := 377) (L1 := [some (.ref 0), some (.ref 4), some (.ref 19), some (.int 0)]) (S1 := [.int 0, .ref 0, .int x2, .int x1, .ref 19, .int (-1)]) zd0_376 rfl rfl rfl ?_
    refine z_e1 (pc1 := 378) (L1 := [some (.ref 0), some (.ref 4), some (.ref 19), some (.int 0)]) (S1 := [.int 3, .int 0, .ref 0, .int x2, .int x1, .ref 19, .int (-1)]) zd0_377 rfl rfl rfl ?_
    refine z_e1 (pc1 := 379) (L1 := [some (.ref 0), some (.ref 4), some (.ref 19), some (.int 0)]) (S1 := [.int 3, .ref 0, .int x2, .int x1, .ref 19, .int (-1)]) zd0_378 rfl rfl rfl ?_
    refine z_eial (y := x3) zd0_379 h0 (by decide) g3 ?_
    refine z_ecV (vs := [.ref 19, .int x1, .int x2, .int x3]) (r := [.int (-1)]) (L2 := [some (.ref 19), some (.int x1), some (.int x2), some (.int x3)]) zd0_380 zcV0_39 (Or.inl rfl) rfl b19 (by decide) rfl rfl rfl (Nat.le_of_ble_eq_true rfl) zm213 (Nat.le_of_ble_eq_true rfl) rfl ?_
    refine z_e1 (pc1 := 1) (L1 := [some (.ref 19), some (.int x1), some (.int x2), some (.int x3)]) (S1 := [.ref 19]) zd213_0 rfl rfl rfl ?_
    refine z_e1 (pc1 := 2) (L1 := [some (.ref 19), some (.int x1), some (.int x2), some (.int x3)]) (S1 := [.int x1, .ref 19]) zd213_1 rfl rfl rfl ?_
    refine z_e1 (pc1 := 3) (L1 := [some (.ref 19), some (.int x1), some (.int x2), some (.int x3)]) (S1 := [.int x2, .int x1, .ref 19]) zd213_2 rfl rfl rfl ?_
    refine z_e1 (pc1 := 4) (L1 := [some (.ref 19), some (.int x1), some (.int x2), some (.int x3)]) (S1 := [.int x3, .int x2, .int x1, .ref 19]) zd213_3 rfl rfl rfl ?_
    refine z_ecV (vs := [.ref 19, .int x1, .int x2, .int x3]) (r := []) (L2 := [some (.ref 19), some (.int x1), some (.int x2), some (.int x3)]) zd213_4 zcV213_219 (Or.inl rfl) rfl b19 (by decide) rfl rfl rfl (Nat.le_of_ble_eq_true rfl) zm214 (Nat.le_of_ble_eq_true rfl) rfl ?_
    refine z_e1 (pc1 := 1) (L1 := [some (.ref 19), some (.int x1), some (.int x2), some (.int x3)]) (S1 := [.ref 19]) zd214_0 rfl rfl rfl ?_
    refine z_e1 (pc1 := 2) (L1 := [some (.ref 19), some (.int x1), some (.int x2), some (.int x3)]) (S1 := [.int x1, .ref 19]) zd214_1 rfl rfl rfl ?_
    refine z_ecV (vs := [.ref 19, .int x1]) (r := []) (L2 := [some (.ref 19), some (.int x1)]) zd214_2 zcV214_209 (Or.inl rfl) rfl b19 (by decide) rfl rfl rfl (Nat.le_of_ble_eq_true rfl) zm209 (Nat.le_of_ble_eq_true rfl) rfl ?_
    refine z_e1 (pc1 := 1) (L1 := [some (.ref 19), some (.int x1)]) (S1 := [.int x1]) zd209_0 rfl rfl rfl ?_
    refine z_ez (t := 16) (t2 := 4) zd209_1 rfl (z_b_ltx0 (k := 0) (by decide) (show ¬ x1.toInt < 0 from by omega)) ?_
    refine z_e1 (pc1 := 5) (L1 := [some (.ref 19), some (.int x1)]) (S1 := [.int x1]) zd209_4 rfl rfl rfl ?_
    refine z_e1 (pc1 := 6) (L1 := [some (.ref 19), some (.int x1)]) (S1 := [.ref 19, .int x1]) zd209_5 rfl rfl rfl ?_
    refine z_egf (fs := [.ref 20, .int 0, .ref 21, .ref 22, .ref 23, .ref 24, .ref 25, .ref 26, .ref 27, .ref 28, .ref 29, .ref 30, .ref 31, .int 0, .ref 32, .ref 33, .ref 34, .ref 35, .ref 36, .ref 37, .ref 38, .int 0, .int 0, .int 0, .int 0, .int 0, .int 0, .int 0, .int 0, .int 0, .int 0, .ref 39, .ref 40, .ref 41, .int 0, .int 0, .ref 42, .ref 43, .ref 44, .ref 45, .ref 46, .int 0, .ref 47, .int 0, .int 0, .int 0, .ref 48, .int 0, .int 0, .ref 49, .ref 50, .ref 51, .ref 52]) (v := .int 0) zd209_6 zf209_110 b19 (by decide) (by decide) rfl ?_
    refine z_ej (t := 16) (t2 := 16) zd209_9 rfl (z_b_gex0 (k := 0) (by decide) (show ¬ x1.toInt < 0 from by omega)) ?_
    refine z_e1 (pc1 := 17) (L1 := [some (.ref 19), some (.int x1)]) (S1 := [.int 0]) zd209_16 rfl rfl rfl ?_
    refine z_erz zd209_17 zr209 (by decide) ?_
    show z_ev _ 214 5 [some (.ref 19), some (.int x1), some (.int x2), some (.int x3)] [.int 0] _ _
    refine z_ez (t := 36) (t2 := 36) zd214_5 rfl rfl ?_
    refine z_e1 (pc1 := 37) (L1 := [some (.ref 19), some (.int x1), some (.int x2), some (.int x3)]) (S1 := [.int 0]) zd214_36 rfl rfl rfl ?_
    refine z_erz zd214_37 zr214 (by decide) ?_
    show z_ev _ 213 7 [some (.ref 19), some (.int x1), some (.int x2), some (.int x3)] [.int 0] _ _
    refine z_ez (t := 12) (t2 := 10) zd213_7 rfl rfl ?_
    refine z_e1 (pc1 := 11) (L1 := [some (.ref 19), some (.int x1), some (.int x2), some (.int x3)]) (S1 := [.int (-1)]) zd213_10 rfl rfl rfl ?_
    refine z_eri zd213_11 zr213 ?_
    show z_ev _ 0 383 [some (.ref 0), some (.ref 4), some (.ref 19), some (.int 0)] [.int (-1), .int (-1)] _ _
    refine z_ej (t := 1775) (t2 := 1775) zd0_383 rfl rfl ?_
    refine z_e1 (pc1 := 1778) (L1 := [some (.ref 0), some (.ref 4), some (.ref 19), some (.int 6)]) (S1 := []) zd0_1775 rfl rfl rfl ?_
    refine z_e1 (pc1 := 18) (L1 := [some (.ref 0), some (.ref 4), some (.ref 19), some (.int 6)]) (S1 := []) zd0_1778 rfl rfl rfl ?_
    refine z_e1 (pc1 := 19) (L1 := [some (.ref 0), some (.ref 4), some (.ref 19), some (.int 6)]) (S1 := [.int 6]) zd0_18 rfl rfl rfl ?_
    refine z_e1 (pc1 := 20) (L1 := [some (.ref 0), some (.ref 4), some (.ref 19), some (.int 6)]) (S1 := [.ref 0, .int 6]) zd0_19 rfl rfl rfl ?_
    refine z_ealn (y := 6) zd0_20 h0 rfl ?_
    refine z_e1 (pc1 := 23) (L1 := [some (.ref 0), some (.ref 4), some (.ref 19), some (.int 6)]) (S1 := [.int 6, .int 6, .int 6]) zd0_21 rfl rfl rfl ?_
    refine z_e1 (pc1 := 24) (L1 := [some (.ref 0), some (.ref 4), some (.ref 19), some (.int 6)]) (S1 := [.int 0, .int 6]) zd0_23 rfl rfl rfl ?_
    refine z_ej (t := 1781) (t2 := 1781) zd0_24 rfl rfl ?_
    refine z_e1 (pc1 := 1782) (L1 := [some (.ref 0), some (.ref 4), some (.ref 19), some (.int 6)]) (S1 := [.int 1]) zd0_1781 rfl rfl rfl ?_
    refine z_erz zd0_1782 zr0 (by decide) ?_
    exact z_K1i hN hS (by decide) (by decide)
theorem z_C6 {M : zH} {xs : Nat → Int32} {x1 x2 x3 x4 x5 : Int32} (h0 : M[0]? = some (.inl (0, 6, .inl xs))) (hN : M.length = 53) (hS : z_sz M ≤ 50000) (hB : z_fr M 4 53) (g1 : xs 1 = x1) (g2 : xs 2 = x2) (g3 : xs 3 = x3) (g4 : xs 4 = x4) (g5 : xs 5 = x5) : z_ev 2047 0 388 [some (.ref 0), some (.ref 4), some (.ref 19), some (.int 0)] [] M z_K1 := by
  have b4 := z_qO (hB 4 (by decide) (by decide))
  have b19 := z_qO (hB 19 (by decide) (by decide))
  refine z_e1 (pc1 := 389) (L1 := [some (.ref 0), some (.ref 4), some (.ref 19), some (.int 0)]) (S1 := [.ref 4]) zd0_388 rfl rfl rfl ?_
  refine z_e1 (pc1 := 390) (L1 := [some (.ref 0), some (.ref 4), some (.ref 19), some (.int 0)]) (S1 := [.ref 0, .ref 4]) zd0_389 rfl rfl rfl ?_
  refine z_e1 (pc1 := 391) (L1 := [some (.ref 0), some (.ref 4), some (.ref 19), some (.int 0)]) (S1 := [.int 0, .ref 0, .ref 4]) zd0_390 rfl rfl rfl ?_
  refine z_e1 (pc1 := 392) (L1 := [some (.ref 0), some (.ref 4), some (.ref 19), some (.int 0)]) (S1 := [.int 1, .int 0, .ref 0, .ref 4]) zd0_391 rfl rfl rfl ?_
  refine z_e1 (pc1 := 393) (L1 := [some (.ref 0), some (.ref 4), some (.ref 19), some (.int 0)]) (S1 := [.int 1, .ref 0, .ref 4]) zd0_392 rfl rfl rfl ?_
  refine z_eial (y := x1) zd0_393 h0 (by decide) g1 ?_
  refine z_e1 (pc1 := 395) (L1 := [some (.ref 0), some (.ref 4), some (.ref 19), some (.int 0)]) (S1 := [.ref 0, .int x1, .ref 4]) zd0_394 rfl rfl rfl ?_
  refine z_e1 (pc1 := 396) (L1 := [some (.ref 0), some (.ref 4), some (.ref 19), some (.int 0)]) (S1 := [.int 0, .ref 0, .int x1, .ref 4]) zd0_395 rfl rfl rfl ?_
  refine z_e1 (pc1 := 397) (L1 := [some (.ref 0), some (.ref 4), some (.ref 19), some (.int 0)]) (S1 := [.int 2, .int 0, .ref 0, .int x1, .ref 4]) zd0_396 rfl rfl rfl ?_
  refine z_e1 (pc1 := 398) (L1 := [some (.ref 0), some (.ref 4), some (.ref 19), some (.int 0)]) (S1 := [.int 2, .ref 0, .int x1, .ref 4]) zd0_397 rfl rfl rfl ?_
  refine z_eial (y := x2) zd0_398 h0 (by decide) g2 ?_
  refine z_e1 (pc1 := 400) (L1 := [some (.ref 0), some (.ref 4), some (.ref 19), some (.int 0)]) (S1 := [.ref 0, .int x2, .int x1, .ref 4]) zd0_399 rfl rfl rfl ?_
  refine z_e1 (pc1 := 401) (L1 := [some (.ref 0), some (.ref 4), some (.ref 19), some (.int 0)]) (S1 := [.int 0, .ref 0, .int x2, .int x1, .ref 4]) zd0_400 rfl rfl rfl ?_
  refine z_e1 (pc1 := 402) (L1 := [some (.ref 0), some (.ref 4), some (.ref 19), some (.int 0)]) (S1 := [.int 3, .int 0, .ref 0, .int x2, .int x1, .ref 4]) zd0_401 rfl rfl rfl ?_
  refine z_e1 (pc1 := 403) (L1 := [some (.ref 0), some (.ref 4), some (.ref 19), some (.int 0)]) (S1 := [.int 3, .ref 0, .int x2, .int x1, .ref 4]) zd0_402 rfl rfl rfl ?_
  refine z_eial (y := x3) zd0_403 h0 (by decide) g3 ?_
  refine z_e1 (pc1 := 405) (L1 := [some (.ref 0), some (.ref 4), some (.ref 19), some (.int 0)]) (S1 := [.ref 0, .int x3, .int x2, .int x1, .ref 4]) zd0_404 rfl rfl rfl ?_
  refine z_e1 (pc1 := 406) (L1 := [some (.ref 0), some (.ref 4), some (.ref 19), some (.int 0)]) (S1 := [.int 0, .ref 0, .int x3, .int x2, .int x1, .ref 4]) zd0_405 rfl rfl rfl ?_
  refine z_e1 (pc1 := 407) (L1 := [some (.ref 0), some (.ref 4), some (.ref 19), some (.int 0)]) (S1 := [.int 4, .int 0, .ref 0, .int x3, .int x2, .int x1, .ref 4]) zd0_406 rfl rfl rfl ?_
  refine z_e1 (pc1 := 408) (L1 := [some (.ref 0), some (.ref 4), some (.ref 19), some (.int 0)]) (S1 := [.int 4, .ref 0, .int x3, .int x2, .int x1, .ref 4]) zd0_407 rfl rfl rfl ?_
  refine z_eial (y := x4) zd0_408 h0 (by decide) g4 ?_
  refine z_ecV (vs := [.ref 4, .int x1, .int x2, .int x3, .int x4]) (r := []) (L2 := [some (.ref 4), some (.int x1), some (.int x2), some (.int x3), some (.int x4), none, none]) zd0_409 zcV0_40 (Or.inl rfl) rfl b4 (by decide) rfl rfl rfl (Nat.le_of_ble_eq_true rfl) zm47 (Nat.le_of_ble_eq_true rfl) rfl ?_
  refine z_e1 (pc1 := 1) (L1 := [some (.ref 4), some (.int x1), some (.int x2), some (.int x3), some (.int x4), none, none]) (S1 := [.ref 4]) zd47_0 rfl rfl rfl ?_
  refine z_e1 (pc1 := 2) (L1 := [some (.ref 4), some (.int x1), some (.int x2), some (.int x3), some (.int x4), none, none]) (S1 := [.int x1, .ref 4]) zd47_1 rfl rfl rfl ?_
  refine z_ecV (vs := [.ref 4, .int x1]) (r := []) (L2 := [some (.ref 4), some (.int x1)]) zd47_2 zcV47_108 (Or.inl rfl) rfl b4 (by decide) rfl rfl rfl (Nat.le_of_ble_eq_true rfl) zm37 (Nat.le_of_ble_eq_true rfl) rfl ?_
  refine z_e1 (pc1 := 1) (L1 := [some (.ref 4), some (.int x1)]) (S1 := [.int x1]) zd37_0 rfl rfl rfl ?_
  by_cases e1 : x1.toInt < 0
  · refine z_ez (t := 12) (t2 := 12) zd37_1 rfl (z_b_ltx1 (k := 0) (by decide) e1) ?_
    refine z_e1 (pc1 := 13) (L1 := [some (.ref 4), some (.int x1)]) (S1 := [.null]) zd37_12 rfl rfl rfl ?_
    refine z_e1 (pc1 := 25) (L1 := [some (.ref 4), some (.int x1)]) (S1 := [.null]) zd37_13 rfl rfl rfl ?_
    refine z_ern zd37_25 zr37 ?_
    show z_ev _ 47 5 [some (.ref 4), some (.int x1), some (.int x2), some (.int x3), some (.int x4), none, none] [.null] _ _
    refine z_e1 (pc1 := 7) (L1 := [some (.ref 4), some (.int x1), some (.int x2), some (.int x3), some (.int x4), some (.null), none]) (S1 := []) zd47_5 rfl rfl rfl ?_
    refine z_e1 (pc1 := 9) (L1 := [some (.ref 4), some (.int x1), some (.int x2), some (.int x3), some (.int x4), some (.null), none]) (S1 := [.null]) zd47_7 rfl rfl rfl ?_
    refine z_e1 (pc1 := 32) (L1 := [some (.ref 4), some (.int x1), some (.int x2), some (.int x3), some (.int x4), some (.null), none]) (S1 := []) zd47_9 rfl rfl rfl ?_
    refine z_e1 (pc1 := 33) (L1 := [some (.ref 4), some (.int x1), some (.int x2), some (.int x3), some (.int x4), some (.null), none]) (S1 := [.int (-1)]) zd47_32 rfl rfl rfl ?_
    refine z_eri zd47_33 zr47 ?_
    show z_ev _ 0 412 [some (.ref 0), some (.ref 4), some (.ref 19), some (.int 0)] [.int (-1)] _ _
    refine z_e1 (pc1 := 413) (L1 := [some (.ref 0), some (.ref 4), some (.ref 19), some (.int 0)]) (S1 := [.ref 19, .int (-1)]) zd0_412 rfl rfl rfl ?_
    refine z_e1 (pc1 := 414) (L1 := [some (.ref 0), some (.ref 4), some (.ref 19), some (.int 0)]) (S1 := [.ref 0, .ref 19, .int (-1)]) zd0_413 rfl rfl rfl ?_
    refine z_e1 (pc1 := 415) (L1 := [some (.ref 0), some (.ref 4), some (.ref 19), some (.int 0)]) (S1 := [.int 0, .ref 0, .ref 19, .int (-1)]) zd0_414 rfl rfl rfl ?_
    refine z_e1 (pc1 := 416) (L1 := [some (.ref 0), some (.ref 4), some (.ref 19), some (.int 0)]) (S1 := [.int 1, .int 0, .ref 0, .ref 19, .int (-1)]) zd0_415 rfl rfl rfl ?_
    refine z_e1 (pc1 := 417) (L1 := [some (.ref 0), some (.ref 4), some (.ref 19), some (.int 0)]) (S1 := [.int 1, .ref 0, .ref 19, .int (-1)]) zd0_416 rfl rfl rfl ?_
    refine z_eial (y := x1) zd0_417 h0 (by decide) g1 ?_
    refine z_e1 (pc1 := 419) (L1 := [some (.ref 0), some (.ref 4), some (.ref 19), some (.int 0)]) (S1 := [.ref 0, .int x1, .ref 19, .int (-1)]) zd0_418 rfl rfl rfl ?_
    refine z_e1 (pc1 := 420) (L1 := [some (.ref 0), some (.ref 4), some (.ref 19), some (.int 0)]) (S1 := [.int 0, .ref 0, .int x1, .ref 19, .int (-1)]) zd0_419 rfl rfl rfl ?_
    refine z_e1 (pc1 := 421) (L1 := [some (.ref 0), some (.ref 4), some (.ref 19), some (.int 0)]) (S1 := [.int 2, .int 0, .ref 0, .int x1, .ref 19, .int (-1)]) zd0_420 rfl rfl rfl ?_
    refine z_e1 (pc1 := 422) (L1 := [some (.ref 0), some (.ref 4), some (.ref 19), some (.int 0)]) (S1 := [.int 2, .ref 0, .int x1, .ref 19, .int (-1)]) zd0_421 rfl rfl rfl ?_
    refine z_eial (y := x2) zd0_422 h0 (by decide) g2 ?_
    refine z_e1 (pc1 := 424) (L1 := [some (.ref 0), some (.ref 4), some (.ref 19), some (.int 0)]) (S1 := [.ref 0, .int x2, .int x1, .ref 19, .int (-1)]) zd0_423 rfl rfl rfl ?_
    refine z_e1 (pc1 := 425) (L1 := [some (.ref 0), some (.ref 4), some (.ref 19), some (.int 0)]) (S1 := [.int 0, .ref 0, .int x2, .int x1, .ref 19, .int (-1)]) zd0_424 rfl rfl rfl ?_
    refine z_e1 (pc1 := 426) (L1 := [some (.ref 0), some (.ref 4), some (.ref 19), some (.int 0)]) (S1 := [.int 3, .int 0, .ref 0, .int x2, .int x1, .ref 19, .int (-1)]) zd0_425 rfl rfl rfl ?_
    refine z_e1 (pc1 := 427) (L1 := [some (.ref 0), some (.ref 4), some (.ref 19), some (.int 0)]) (S1 := [.int 3, .ref 0, .int x2, .int x1, .ref 19, .int (-1)]) zd0_426 rfl rfl rfl ?_
    refine z_eial (y := x3) zd0_427 h0 (by decide) g3 ?_
    refine z_e1 (pc1 := 429) (L1 := [some (.ref 0), some (.ref 4), some (.ref 19), some (.int 0)]) (S1 := [.ref 0, .int x3, .int x2, .int x1, .ref 19, .int (-1)]) zd0_428 rfl rfl rfl ?_
    refine z_e1 (pc1 := 430) (L1 := [some (.ref 0), some (.ref 4), some (.ref 19), some (.int 0)]) (S1 := [.int 0, .ref 0, .int x3, .int x2, .int x1, .ref 19, .int (-1)]) zd0_429 rfl rfl rfl ?_
    refine z_e1 (pc1 := 431) (L1 := [some (.ref 0), some (.ref 4), some (.ref 19), some (.int 0)]) (S1 := [.int 4, .int 0, .ref 0, .int x3, .int x2, .int x1, .ref 19, .int (-1)]) zd0_430 rfl rfl rfl ?_
    refine z_e1 (pc1 := 432) (L1 := [some (.ref 0), some (.ref 4), some (.ref 19), some (.int 0)]) (S1 := [.int 4, .ref 0, .int x3, .int x2, .int x1, .ref 19, .int (-1)]) zd0_431 rfl rfl rfl ?_
    refine z_eial (y := x4) zd0_432 h0 (by decide) g4 ?_
    refine z_ecV (vs := [.ref 19, .int x1, .int x2, .int x3, .int x4]) (r := [.int (-1)]) (L2 := [some (.ref 19), some (.int x1), some (.int x2), some (.int x3), some (.int x4)]) zd0_433 zcV0_44 (Or.inl rfl) rfl b19 (by decide) rfl rfl rfl (Nat.le_of_ble_eq_true rfl) zm217 (Nat.le_of_ble_eq_true rfl) rfl ?_
    refine z_e1 (pc1 := 1) (L1 := [some (.ref 19), some (.int x1), some (.int x2), some (.int x3), some (.int x4)]) (S1 := [.ref 19]) zd217_0 rfl rfl rfl ?_
    refine z_e1 (pc1 := 2) (L1 := [some (.ref 19), some (.int x1), some (.int x2), some (.int x3), some (.int x4)]) (S1 := [.int x1, .ref 19]) zd217_1 rfl rfl rfl ?_
    refine z_e1 (pc1 := 3) (L1 := [some (.ref 19), some (.int x1), some (.int x2), some (.int x3), some (.int x4)]) (S1 := [.int x2, .int x1, .ref 19]) zd217_2 rfl rfl rfl ?_
    refine z_e1 (pc1 := 4) (L1 := [some (.ref 19), some (.int x1), some (.int x2), some (.int x3), some (.int x4)]) (S1 := [.int x3, .int x2, .int x1, .ref 19]) zd217_3 rfl rfl rfl ?_
    refine z_ecV (vs := [.ref 19, .int x1, .int x2, .int x3]) (r := []) (L2 := [some (.ref 19), some (.int x1), some (.int x2), some (.int x3)]) zd217_4 zcV217_219 (Or.inl rfl) rfl b19 (by decide) rfl rfl rfl (Nat.le_of_ble_eq_true rfl) zm214 (Nat.le_of_ble_eq_true rfl) rfl ?_
    refine z_e1 (pc1 := 1) (L1 := [some (.ref 19), some (.int x1), some (.int x2), some (.int x3)]) (S1 := [.ref 19]) zd214_0 rfl rfl rfl ?_
    refine z_e1 (pc1 := 2) (L1 := [some (.ref 19), some (.int x1), some (.int x2), some (.int x3)]) (S1 := [.int x1, .ref 19]) zd214_1 rfl rfl rfl ?_
    refine z_ecV (vs := [.ref 19, .int x1]) (r := []) (L2 := [some (.ref 19), some (.int x1)]) zd214_2 zcV214_209 (Or.inl rfl) rfl b19 (by decide) rfl rfl rfl (Nat.le_of_ble_eq_true rfl) zm209 (Nat.le_of_ble_eq_true rfl) rfl ?_
    refine z_e1 (pc1 := 1) (L1 := [some (.ref 19), some (.int x1)]) (S1 := [.int x1]) zd209_0 rfl rfl rfl ?_
    refine z_ez (t := 16) (t2 := 16) zd209_1 rfl (z_b_ltx1 (k := 0) (by decide) (show x1.toInt < 0 from by omega)) ?_
    refine z_e1 (pc1 := 17) (L1 := [some (.ref 19), some (.int x1)]) (S1 := [.int 0]) zd209_16 rfl rfl rfl ?_
    refine z_erz zd209_17 zr209 (by decide) ?_
    show z_ev _ 214 5 [some (.ref 19), some (.int x1), some (.int x2), some (.int x3)] [.int 0] _ _
    refine z_ez (t := 36) (t2 := 36) zd214_5 rfl rfl ?_
    refine z_e1 (pc1 := 37) (L1 := [some (.ref 19), some (.int x1), some (.int x2), some (.int x3)]) (S1 := [.int 0]) zd214_36 rfl rfl rfl ?_
    refine z_erz zd214_37 zr214 (by decide) ?_
    show z_ev _ 217 7 [some (.ref 19), some (.int x1), some (.int x2), some (.int x3), some (.int x4)] [.int 0] _ _
    refine z_ez (t := 32) (t2 := 32) zd217_7 rfl rfl ?_
    refine z_e1 (pc1 := 33) (L1 := [some (.ref 19), some (.int x1), some (.int x2), some (.int x3), some (.int x4)]) (S1 := [.int (-1)]) zd217_32 rfl rfl rfl ?_
    refine z_eri zd217_33 zr217 ?_
    show z_ev _ 0 436 [some (.ref 0), some (.ref 4), some (.ref 19), some (.int 0)] [.int (-1), .int (-1)] _ _
    refine z_ej (t := 1775) (t2 := 1775) zd0_436 rfl rfl ?_
    refine z_e1 (pc1 := 1778) (L1 := [some (.ref 0), some (.ref 4), some (.ref 19), some (.int 6)]) (S1 := []) zd0_1775 rfl rfl rfl ?_
    refine z_e1 (pc1 := 18) (L1 := [some (.ref 0), some (.ref 4), some (.ref 19), some (.int 6)]) (S1 := []) zd0_1778 rfl rfl rfl ?_
    refine z_e1 (pc1 := 19) (L1 := [some (.ref 0), some (.ref 4), some (.ref 19), some (.int 6)]) (S1 := [.int 6]) zd0_18 rfl rfl rfl ?_
    refine z_e1 (pc1 := 20) (L1 := [some (.ref 0), some (.ref 4), some (.ref 19), some (.int 6)]) (S1 := [.ref 0, .int 6]) zd0_19 rfl rfl rfl ?_
    refine z_ealn (y := 6) zd0_20 h0 rfl ?_
    refine z_e1 (pc1 := 23) (L1 := [some (.ref 0), some (.ref 4), some (.ref 19), some (.int 6)]) (S1 := [.int 6, .int 6, .int 6]) zd0_21 rfl rfl rfl ?_
    refine z_e1 (pc1 := 24) (L1 := [some (.ref 0), some (.ref 4), some (.ref 19), some (.int 6)]) (S1 := [.int 0, .int 6]) zd0_23 rfl rfl rfl ?_
    refine z_ej (t := 1781) (t2 := 1781) zd0_24 rfl rfl ?_
    refine z_e1 (pc1 := 1782) (L1 := [some (.ref 0), some (.ref 4), some (.ref 19), some (.int 6)]) (S1 := [.int 1]) zd0_1781 rfl rfl rfl ?_
    refine z_erz zd0_1782 zr0 (by decide) ?_
    exact z_K1i hN hS (by decide) (by decide)
  · refine z_ez (t := 12) (t2 := 4) zd37_1 rfl (z_b_ltx0 (k := 0) (by decide) e1) ?_
    refine z_e1 (pc1 := 5) (L1 := [some (.ref 4), some (.int x1)]) (S1 := [.int x1]) zd37_4 rfl rfl rfl ?_
    refine z_e1 (pc1 := 6) (L1 := [some (.ref 4), some (.int x1)]) (S1 := [.ref 4, .int x1]) zd37_5 rfl rfl rfl ?_
    refine z_egf (fs := [.ref 5, .ref 10, .ref 11, .int 0, .ref 12, .int 0, .ref 13, .ref 14, .ref 15, .ref 16, .ref 17, .ref 18, .null]) (v := .int 0) zd37_6 zf37_59 b4 (by decide) (by decide) rfl ?_
    refine z_ej (t := 16) (t2 := 12) zd37_9 rfl (z_b_ltx0 (k := 0) (by decide) (show ¬ x1.toInt < 0 from by omega)) ?_
    refine z_e1 (pc1 := 13) (L1 := [some (.ref 4), some (.int x1)]) (S1 := [.null]) zd37_12 rfl rfl rfl ?_
    refine z_e1 (pc1 := 25) (L1 := [some (.ref 4), some (.int x1)]) (S1 := [.null]) zd37_13 rfl rfl rfl ?_
    refine z_ern zd37_25 zr37 ?_
    show z_ev _ 47 5 [some (.ref 4), some (.int x1), some (.int x2), some (.int x3), some (.int x4), none, none] [.null] _ _
    refine z_e1 (pc1 := 7) (L1 := [some (.ref 4), some (.int x1), some (.int x2), some (.int x3), some (.int x4), some (.null), none]) (S1 := []) zd47_5 rfl rfl rfl ?_
    refine z_e1 (pc1 := 9) (L1 := [some (.ref 4), some (.int x1), some (.int x2), some (.int x3), some (.int x4), some (.null), none]) (S1 := [.null]) zd47_7 rfl rfl rfl ?_
    refine z_e1 (pc1 := 32) (L1 := [some (.ref 4), some (.int x1), some (.int x2), some (.int x3), some (.int x4), some (.null), none]) (S1 := []) zd47_9 rfl rfl rfl ?_
    refine z_e1 (pc1 := 33) (L1 := [some (.ref 4), some (.int x1), some (.int x2), some (.int x3), some (.int x4), some (.null), none]) (S1 := [.int (-1)]) zd47_32 rfl rfl rfl ?_
    refine z_eri zd47_33 zr47 ?_
    show z_ev _ 0 412 [some (.ref 0), some (.ref 4), some (.ref 19), some (.int 0)] [.int (-1)] _ _
    refine z_e1 (pc1 := 413) (L1 := [some (.ref 0), some (.ref 4), some (.ref 19), some (.int 0)]) (S1 := [.ref 19, .int (-1)]) zd0_412 rfl rfl rfl ?_
    refine z_e1 (pc1 := 414) (L1 := [some (.ref 0), some (.ref 4), some (.ref 19), some (.int 0)]) (S1 := [.ref 0, .ref 19, .int (-1)]) zd0_413 rfl rfl rfl ?_
    refine z_e1 (pc1 := 415) (L1 := [some (.ref 0), some (.ref 4), some (.ref 19), some (.int 0)]) (S1 := [.int 0, .ref 0, .ref 19, .int (-1)]) zd0_414 rfl rfl rfl ?_
    refine z_e1 (pc1 := 416) (L1 := [some (.ref 0), some (.ref 4), some (.ref 19), some (.int 0)]) (S1 := [.int 1, .int 0, .ref 0, .ref 19, .int (-1)]) zd0_415 rfl rfl rfl ?_
    refine z_e1 (pc1 := 417) (L1 := [some (.ref 0), some (.ref 4), some (.ref 19), some (.int 0)]) (S1 := [.int 1, .ref 0, .ref 19, .int (-1)]) zd0_416 rfl rfl rfl ?_
    refine z_eial (y := x1) zd0_417 h0 (by decide) g1 ?_
    refine z_e1 (pc1 := 419) (L1 := [some (.ref 0), some (.ref 4), some (.ref 19), some (.int 0)]) (S1 := [.ref 0, .int x1, .ref 19, .int (-1)]) zd0_418 rfl rfl rfl ?_
    refine z_e1 (pc1 := 420) (L1 := [some (.ref 0), some (.ref 4), some (.ref 19), some (.int 0)]) (S1 := [.int 0, .ref 0, .int x1, .ref 19, .int (-1)]) zd0_419 rfl rfl rfl ?_
    refine z_e1 (pc1 := 421) (L1 := [some (.ref 0), some (.ref 4), some (.ref 19), some (.int 0)]) (S1 := [.int 2, .int 0, .ref 0, .int x1, .ref 19, .int (-1)]) zd0_420 rfl rfl rfl ?_
    refine z_e1 (pc1 := 422) (L1 := [some (.ref 0), some (.ref 4), some (.ref 19), some (.int 0)]) (S1 := [.int 2, .ref 0, .int x1, .ref 19, .int (-1)]) zd0_421 rfl rfl rfl ?_
    refine z_eial (y := x2) zd0_422 h0 (by decide) g2 ?_
    refine z_e1 (pc1 := 424) (L1 := [some (.ref 0), some (.ref 4), some (.ref 19), some (.int 0)]) (S1 := [.ref 0, .int x2, .int x1, .ref 19, .int (-1)]) zd0_423 rfl rfl rfl ?_
    refine z_e1 (pc1 := 425) (L1 := [some (.ref 0), some (.ref 4), some (.ref 19), some (.int 0)]) (S1 := [.int 0, .ref 0, .int x2, .int x1, .ref 19, .int (-1)]) zd0_424 rfl rfl rfl ?_
    refine z_e1 (pc1 := 426) (L1 := [some (.ref 0), some (.ref 4), some (.ref 19), some (.int 0)]) (S1 := [.int 3, .int 0, .ref 0, .int x2, .int x1, .ref 19, .int (-1)]) zd0_425 rfl rfl rfl ?_
    refine z_e1 (pc1 := 427) (L1 := [some (.ref 0), some (.ref 4), some (.ref 19), some (.int 0)]) (S1 := [.int 3, .ref 0, .int x2, .int x1, .ref 19, .int (-1)]) zd0_426 rfl rfl rfl ?_
    refine z_eial (y := x3) zd0_427 h0 (by decide) g3 ?_
    refine z_e1 (pc1 := 429) (L1 := [some (.ref 0), some (.ref 4), some (.ref 19), some (.int 0)]) (S1 := [.ref 0, .int x3, .int x2, .int x1, .ref 19, .int (-1)]) zd0_428 rfl rfl rfl ?_
    refine z_e1 (pc1 := 430) (L1 := [some (.ref 0), some (.ref 4), some (.ref 19), some (.int 0)]) (S1 := [.int 0, .ref 0, .int x3, .int x2, .int x1, .ref 19, .int (-1)]) zd0_429 rfl rfl rfl ?_
    refine z_e1 (pc1 := 431) (L1 := [some (.ref 0), some (.ref 4), some (.ref 19), some (.int 0)]) (S1 := [.int 4, .int 0, .ref 0, .int x3, .int x2, .int x1, .ref 19, .int (-1)]) zd0_430 rfl rfl rfl ?_
    refine z_e1 (pc1 := 432) (L1 := [some (.ref 0), some (.ref 4), some (.ref 19), some (.int 0)]) (S1 := [.int 4, .ref 0, .int x3, .int x2, .int x1, .ref 19, .int (-1)]) zd0_431 rfl rfl rfl ?_
    refine z_eial (y := x4) zd0_432 h0 (by decide) g4 ?_
    refine z_ecV (vs := [.ref 19, .int x1, .int x2, .int x3, .int x4]) (r := [.int (-1)]) (L2 := [some (.ref 19), some (.int x1), some (.int x2), some (.int x3), some (.int x4)]) zd0_433 zcV0_44 (Or.inl rfl) rfl b19 (by decide) rfl rfl rfl (Nat.le_of_ble_eq_true rfl) zm217 (Nat.le_of_ble_eq_true rfl) rfl ?_
    refine z_e1 (pc1 := 1) (L1 := [some (.ref 19), some (.int x1), some (.int x2), some (.int x3), some (.int x4)]) (S1 := [.ref 19]) zd217_0 rfl rfl rfl ?_
    refine z_e1 (pc1 := 2) (L1 := [some (.ref 19), some (.int x1), some (.int x2), some (.int x3), some (.int x4)]) (S1 := [.int x1, .ref 19]) zd217_1 rfl rfl rfl ?_
    refine z_e1 (pc1 := 3) (L1 := [some (.ref 19), some (.int x1), some (.int x2), some (.int x3), some (.int x4)]) (S1 := [.int x2, .int x1, .ref 19]) zd217_2 rfl rfl rfl ?_
    refine z_e1 (pc1 := 4) (L1 := [some (.ref 19), some (.int x1), some (.int x2), some (.int x3), some (.int x4)]) (S1 := [.int x3, .int x2, .int x1, .ref 19]) zd217_3 rfl rfl rfl ?_
    refine z_ecV (vs := [.ref 19, .int x1, .int x2, .int x3]) (r := []) (L2 := [some (.ref 19), some (.int x1), some (.int x2), some (.int x3)]) zd217_4 zcV217_219 (Or.inl rfl) rfl b19 (by decide) rfl rfl rfl (Nat.le_of_ble_eq_true rfl) zm214 (Nat.le_of_ble_eq_true rfl) rfl ?_
    refine z_e1 (pc1 := 1) (L1 := [some (.ref 19), some (.int x1), some (.int x2), some (.int x3)]) (S1 := [.ref 19]) zd214_0 rfl rfl rfl ?_
    refine z_e1 (pc1 := 2) (L1 := [some (.ref 19), some (.int x1), some (.int x2), some (.int x3)]) (S1 := [.int x1, .ref 19]) zd214_1 rfl rfl rfl ?_
    refine z_ecV (vs := [.ref 19, .int x1]) (r := []) (L2 := [some (.ref 19), some (.int x1)]) zd214_2 zcV214_209 (Or.inl rfl) rfl b19 (by decide) rfl rfl rfl (Nat.le_of_ble_eq_true rfl) zm209 (Nat.le_of_ble_eq_true rfl) rfl ?_
    refine z_e1 (pc1 := 1) (L1 := [some (.ref 19), some (.int x1)]) (S1 := [.int x1]) zd209_0 rfl rfl rfl ?_
    refine z_ez (t := 16) (t2 := 4) zd209_1 rfl (z_b_ltx0 (k := 0) (by decide) (show ¬ x1.toInt < 0 from by omega)) ?_
    refine z_e1 (pc1 := 5) (L1 := [some (.ref 19), some (.int x1)]) (S1 := [.int x1]) zd209_4 rfl rfl rfl ?_
    refine z_e1 (pc1 := 6) (L1 := [some (.ref 19), some (.int x1)]) (S1 := [.ref 19, .int x1]) zd209_5 rfl rfl rfl ?_
    refine z_egf (fs := [.ref 20, .int 0, .ref 21, .ref 22, .ref 23, .ref 24, .ref 25, .ref 26, .ref 27, .ref 28, .ref 29, .ref 30, .ref 31, .int 0, .ref 32, .ref 33, .ref 34, .ref 35, .ref 36, .ref 37, .ref 38, .int 0, .int 0, .int 0, .int 0, .int 0, .int 0, .int 0, .int 0, .int 0, .int 0, .ref 39, .ref 40, .ref 41, .int 0, .int 0, .ref 42, .ref 43, .ref 44, .ref 45, .ref 46, .int 0, .ref 47, .int 0, .int 0, .int 0, .ref 48, .int 0, .int 0, .ref 49, .ref 50, .ref 51, .ref 52]) (v := .int 0) zd209_6 zf209_110 b19 (by decide) (by decide) rfl ?_
    refine z_ej (t := 16) (t2 := 16) zd209_9 rfl (z_b_gex0 (k := 0) (by decide) (show ¬ x1.toInt < 0 from by omega)) ?_
    refine z_e1 (pc1 := 17) (L1 := [some (.ref 19), some (.int x1)]) (S1 := [.int 0]) zd209_16 rfl rfl rfl ?_
    refine z_erz zd209_17 zr209 (by decide) ?_
    show z_ev _ 214 5 [some (.ref 19), some (.int x1), some (.int x2), some (.int x3)] [.int 0] _ _
    refine z_ez (t := 36) (t2 := 36) zd214_5 rfl rfl ?_
    refine z_e1 (pc1 := 37) (L1 := [some (.ref 19), some (.int x1), some (.int x2), some (.int x3)]) (S1 := [.int 0]) zd214_36 rfl rfl rfl ?_
    refine z_erz zd214_37 zr214 (by decide) ?_
    show z_ev _ 217 7 [some (.ref 19), some (.int x1), some (.int x2), some (.int x3), some (.int x4)] [.int 0] _ _
    refine z_ez (t := 32) (t2 := 32) zd217_7 rfl rfl ?_
    refine z_e1 (pc1 := 33) (L1 := [some (.ref 19), some (.int x1), some (.int x2), some (.int x3), some (.int x4)]) (S1 := [.int (-1)]) zd217_32 rfl rfl rfl ?_
    refine z_eri zd217_33 zr217 ?_
    show z_ev _ 0 436 [some (.ref 0), some (.ref 4), some (.ref 19), some (.int 0)] [.int (-1), .int (-1)] _ _
    refine z_ej (t := 1775) (t2 := 1775) zd0_436 rfl rfl ?_
    refine z_e1 (pc1 := 1778) (L1 := [some (.ref 0), some (.ref 4), some (.ref 19), some (.int 6)]) (S1 := []) zd0_1775 rfl rfl rfl ?_
    refine z_e1 (pc1 := 18) (L1 := [some (.ref 0), some (.ref 4), some (.ref 19), some (.int 6)]) (S1 := []) zd0_1778 rfl rfl rfl ?_
    refine z_e1 (pc1 := 19) (L1 := [some (.ref 0), some (.ref 4), some (.ref 19), some (.int 6)]) (S1 := [.int 6]) zd0_18 rfl rfl rfl ?_
    refine z_e1 (pc1 := 20) (L1 := [some (.ref 0), some (.ref 4), some (.ref 19), some (.int 6)]) (S1 := [.ref 0, .int 6]) zd0_19 rfl rfl rfl ?_
    refine z_ealn (y := 6) zd0_20 h0 rfl ?_
    refine z_e1 (pc1 := 23) (L1 := [some (.ref 0), some (.ref 4), some (.ref 19), some (.int 6)]) (S1 := [.int 6, .int 6, .int 6]) zd0_21 rfl rfl rfl ?_
    refine z_e1 (pc1 := 24) (L1 := [some (.ref 0), some (.ref 4), some (.ref 19), some (.int 6)]) (S1 := [.int 0, .int 6]) zd0_23 rfl rfl rfl ?_
    refine z_ej (t := 1781) (t2 := 1781) zd0_24 rfl rfl ?_
    refine z_e1 (pc1 := 1782) (L1 := [some (.ref 0), some (.ref 4), some (.ref 19), some (.int 6)]) (S1 := [.int 1]) zd0_1781 rfl rfl rfl ?_
    refine z_erz zd0_1782 zr0 (by decide) ?_
    exact z_K1i hN hS (by decide) (by decide)
theorem z_C7 {M : zH} {xs : Nat → Int32} {x1 x2 x3 x4 x5 : Int32} (h0 : M[0]? = some (.inl (0, 6, .inl xs))) (hN : M.length = 53) (hS : z_sz M ≤ 50000) (hB : z_fr M 4 53) (g1 : xs 1 = x1) (g2 : xs 2 = x2) (g3 : xs 3 = x3) (g4 : xs 4 = x4) (g5 : xs 5 = x5) : z_ev 2047 0 441 [some (.ref 0), some (.ref 4), some (.ref 19), some (.int 0)] [] M z_K1 := by
  have b4 := z_qO (hB 4 (by decide) (by decide))
  have b19 := z_qO (hB 19 (by decide) (by decide))
  refine z_e1 (pc1 := 442) (L1 := [some (.ref 0), some (.ref 4), some (.ref 19), some (.int 0)]) (S1 := [.ref 4]) zd0_441 rfl rfl rfl ?_
  refine z_e1 (pc1 := 443) (L1 := [some (.ref 0), some (.ref 4), some (.ref 19), some (.int 0)]) (S1 := [.ref 0, .ref 4]) zd0_442 rfl rfl rfl ?_
  refine z_e1 (pc1 := 444) (L1 := [some (.ref 0), some (.ref 4), some (.ref 19), some (.int 0)]) (S1 := [.int 0, .ref 0, .ref 4]) zd0_443 rfl rfl rfl ?_
  refine z_e1 (pc1 := 445) (L1 := [some (.ref 0), some (.ref 4), some (.ref 19), some (.int 0)]) (S1 := [.int 1, .int 0, .ref 0, .ref 4]) zd0_444 rfl rfl rfl ?_
  refine z_e1 (pc1 := 446) (L1 := [some (.ref 0), some (.ref 4), some (.ref 19), some (.int 0)]) (S1 := [.int 1, .ref 0, .ref 4]) zd0_445 rfl rfl rfl ?_
  refine z_eial (y := x1) zd0_446 h0 (by decide) g1 ?_
  refine z_e1 (pc1 := 448) (L1 := [some (.ref 0), some (.ref 4), some (.ref 19), some (.int 0)]) (S1 := [.ref 0, .int x1, .ref 4]) zd0_447 rfl rfl rfl ?_
  refine z_e1 (pc1 := 449) (L1 := [some (.ref 0), some (.ref 4), some (.ref 19), some (.int 0)]) (S1 := [.int 0, .ref 0, .int x1, .ref 4]) zd0_448 rfl rfl rfl ?_
  refine z_e1 (pc1 := 450) (L1 := [some (.ref 0), some (.ref 4), some (.ref 19), some (.int 0)]) (S1 := [.int 2, .int 0, .ref 0, .int x1, .ref 4]) zd0_449 rfl rfl rfl ?_
  refine z_e1 (pc1 := 451) (L1 := [some (.ref 0), some (.ref 4), some (.ref 19), some (.int 0)]) (S1 := [.int 2, .ref 0, .int x1, .ref 4]) zd0_450 rfl rfl rfl ?_
  refine z_eial (y := x2) zd0_451 h0 (by decide) g2 ?_
  refine z_e1 (pc1 := 453) (L1 := [some (.ref 0), some (.ref 4), some (.ref 19), some (.int 0)]) (S1 := [.ref 0, .int x2, .int x1, .ref 4]) zd0_452 rfl rfl rfl ?_
  refine z_e1 (pc1 := 454) (L1 := [some (.ref 0), some (.ref 4), some (.ref 19), some (.int 0)]) (S1 := [.int 0, .ref 0, .int x2, .int x1, .ref 4]) zd0_453 rfl rfl rfl ?_
  refine z_e1 (pc1 := 455) (L1 := [some (.ref 0), some (.ref 4), some (.ref 19), some (.int 0)]) (S1 := [.int 3, .int 0, .ref 0, .int x2, .int x1, .ref 4]) zd0_454 rfl rfl rfl ?_
  refine z_e1 (pc1 := 456) (L1 := [some (.ref 0), some (.ref 4), some (.ref 19), some (.int 0)]) (S1 := [.int 3, .ref 0, .int x2, .int x1, .ref 4]) zd0_455 rfl rfl rfl ?_
  refine z_eial (y := x3) zd0_456 h0 (by decide) g3 ?_
  refine z_ecV (vs := [.ref 4, .int x1, .int x2, .int x3]) (r := []) (L2 := [some (.ref 4), some (.int x1), some (.int x2), some (.int x3), none, none]) zd0_457 zcV0_45 (Or.inl rfl) rfl b4 (by decide) rfl rfl rfl (Nat.le_of_ble_eq_true rfl) zm50 (Nat.le_of_ble_eq_true rfl) rfl ?_
  refine z_e1 (pc1 := 1) (L1 := [some (.ref 4), some (.int x1), some (.int x2), some (.int x3), none, none]) (S1 := [.ref 4]) zd50_0 rfl rfl rfl ?_
  refine z_e1 (pc1 := 2) (L1 := [some (.ref 4), some (.int x1), some (.int x2), some (.int x3), none, none]) (S1 := [.int x1, .ref 4]) zd50_1 rfl rfl rfl ?_
  refine z_ecV (vs := [.ref 4, .int x1]) (r := []) (L2 := [some (.ref 4), some (.int x1)]) zd50_2 zcV50_108 (Or.inl rfl) rfl b4 (by decide) rfl rfl rfl (Nat.le_of_ble_eq_true rfl) zm37 (Nat.le_of_ble_eq_true rfl) rfl ?_
  refine z_e1 (pc1 := 1) (L1 := [some (.ref 4), some (.int x1)]) (S1 := [.int x1]) zd37_0 rfl rfl rfl ?_
  by_cases e1 : x1.toInt < 0
  · refine z_ez (t := 12) (t2 := 12) zd37_1 rfl (z_b_ltx1 (k := 0) (by decide) e1) ?_
    refine z_e1 (pc1 := 13) (L1 := [some (.ref 4), some (.int x1)]) (S1 := [.null]) zd37_12 rfl rfl rfl ?_
    refine z_e1 (pc1 := 25) (L1 := [some (.ref 4), some (.int x1)]) (S1 := [.null]) zd37_13 rfl rfl rfl ?_
    refine z_ern zd37_25 zr37 ?_
    show z_ev _ 50 5 [some (.ref 4), some (.int x1), some (.int x2), some (.int x3), none, none] [.null] _ _
    refine z_e1 (pc1 := 7) (L1 := [some (.ref 4), some (.int x1), some (.int x2), some (.int x3), some (.null), none]) (S1 := []) zd50_5 rfl rfl rfl ?_
    refine z_e1 (pc1 := 9) (L1 := [some (.ref 4), some (.int x1), some (.int x2), some (.int x3), some (.null), none]) (S1 := [.null]) zd50_7 rfl rfl rfl ?_
    refine z_e1 (pc1 := 22) (L1 := [some (.ref 4), some (.int x1), some (.int x2), some (.int x3), some (.null), none]) (S1 := []) zd50_9 rfl rfl rfl ?_
    refine z_e1 (pc1 := 23) (L1 := [some (.ref 4), some (.int x1), some (.int x2), some (.int x3), some (.null), none]) (S1 := [.int (-1)]) zd50_22 rfl rfl rfl ?_
    refine z_eri zd50_23 zr50 ?_
    show z_ev _ 0 460 [some (.ref 0), some (.ref 4), some (.ref 19), some (.int 0)] [.int (-1)] _ _
    refine z_e1 (pc1 := 461) (L1 := [some (.ref 0), some (.ref 4), some (.ref 19), some (.int 0)]) (S1 := [.ref 19, .int (-1)]) zd0_460 rfl rfl rfl ?_
    refine z_e1 (pc1 := 462) (L1 := [some (.ref 0), some (.ref 4), some (.ref 19), some (.int 0)]) (S1 := [.ref 0, .ref 19, .int (-1)]) zd0_461 rfl rfl rfl ?_
    refine z_e1 (pc1 := 463) (L1 := [some (.ref 0), some (.ref 4), some (.ref 19), some (.int 0)]) (S1 := [.int 0, .ref 0, .ref 19, .int (-1)]) zd0_462 rfl rfl rfl ?_
    refine z_e1 (pc1 := 464) (L1 := [some (.ref 0), some (.ref 4), some (.ref 19), some (.int 0)]) (S1 := [.int 1, .int 0, .ref 0, .ref 19, .int (-1)]) zd0_463 rfl rfl rfl ?_
    refine z_e1 (pc1 := 465) (L1 := [some (.ref 0), some (.ref 4), some (.ref 19), some (.int 0)]) (S1 := [.int 1, .ref 0, .ref 19, .int (-1)]) zd0_464 rfl rfl rfl ?_
    refine z_eial (y := x1) zd0_465 h0 (by decide) g1 ?_
    refine z_e1 (pc1 := 467) (L1 := [some (.ref 0), some (.ref 4), some (.ref 19), some (.int 0)]) (S1 := [.ref 0, .int x1, .ref 19, .int (-1)]) zd0_466 rfl rfl rfl ?_
    refine z_e1 (pc1 := 468) (L1 := [some (.ref 0), some (.ref 4), some (.ref 19), some (.int 0)]) (S1 := [.int 0, .ref 0, .int x1, .ref 19, .int (-1)]) zd0_467 rfl rfl rfl ?_
    refine z_e1 (pc1 := 469) (L1 := [some (.ref 0), some (.ref 4), some (.ref 19), some (.int 0)]) (S1 := [.int 2, .int 0, .ref 0, .int x1, .ref 19, .int (-1)]) zd0_468 rfl rfl rfl ?_
    refine z_e1 (pc1 := 470) (L1 := [some (.ref 0), some (.ref 4), some (.ref 19), some (.int 0)]) (S1 := [.int 2, .ref 0, .int x1, .ref 19, .int (-1)]) zd0_469 rfl rfl rfl ?_
    refine z_eial (y := x2) zd0_470 h0 (by decide) g2 ?_
    refine z_e1 (pc1 := 472) (L1 := [some (.ref 0), some (.ref 4), some (.ref 19), some (.int 0)]) (S1 := [.ref 0, .int x2, .int x1, .ref 19, .int (-1)]) zd0_471 rfl rfl rfl ?_
    refine z_e1 (pc1 := 473) (L1 := [some (.ref 0), some (.ref 4), some (.ref 19), some (.int 0)]) (S1 := [.int 0, .ref 0, .int x2, .int x1, .ref 19, .int (-1)]) zd0_472 rfl rfl rfl ?_
    refine z_e1 (pc1 := 474) (L1 := [some (.ref 0), some (.ref 4), some (.ref 19), some (.int 0)]) (S1 := [.int 3, .int 0, .ref 0, .int x2, .int x1, .ref 19, .int (-1)]) zd0_473 rfl rfl rfl ?_
    refine z_e1 (pc1 := 475) (L1 := [some (.ref 0), some (.ref 4), some (.ref 19), some (.int 0)]) (S1 := [.int 3, .ref 0, .int x2, .int x1, .ref 19, .int (-1)]) zd0_474 rfl rfl rfl ?_
    refine z_eial (y := x3) zd0_475 h0 (by decide) g3 ?_
    refine z_ecV (vs := [.ref 19, .int x1, .int x2, .int x3]) (r := [.int (-1)]) (L2 := [some (.ref 19), some (.int x1), some (.int x2), some (.int x3), none, none, none, none, none]) zd0_476 zcV0_48 (Or.inl rfl) rfl b19 (by decide) rfl rfl rfl (Nat.le_of_ble_eq_true rfl) zm220 (Nat.le_of_ble_eq_true rfl) rfl ?_
    refine z_e1 (pc1 := 1) (L1 := [some (.ref 19), some (.int x1), some (.int x2), some (.int x3), none, none, none, none, none]) (S1 := [.ref 19]) zd220_0 rfl rfl rfl ?_
    refine z_e1 (pc1 := 2) (L1 := [some (.ref 19), some (.int x1), some (.int x2), some (.int x3), none, none, none, none, none]) (S1 := [.int x1, .ref 19]) zd220_1 rfl rfl rfl ?_
    refine z_e1 (pc1 := 3) (L1 := [some (.ref 19), some (.int x1), some (.int x2), some (.int x3), none, none, none, none, none]) (S1 := [.int x2, .int x1, .ref 19]) zd220_2 rfl rfl rfl ?_
    refine z_e1 (pc1 := 4) (L1 := [some (.ref 19), some (.int x1), some (.int x2), some (.int x3), none, none, none, none, none]) (S1 := [.int x3, .int x2, .int x1, .ref 19]) zd220_3 rfl rfl rfl ?_
    refine z_ecV (vs := [.ref 19, .int x1, .int x2, .int x3]) (r := []) (L2 := [some (.ref 19), some (.int x1), some (.int x2), some (.int x3)]) zd220_4 zcV220_219 (Or.inl rfl) rfl b19 (by decide) rfl rfl rfl (Nat.le_of_ble_eq_true rfl) zm214 (Nat.le_of_ble_eq_true rfl) rfl ?_
    refine z_e1 (pc1 := 1) (L1 := [some (.ref 19), some (.int x1), some (.int x2), some (.int x3)]) (S1 := [.ref 19]) zd214_0 rfl rfl rfl ?_
    refine z_e1 (pc1 := 2) (L1 := [some (.ref 19), some (.int x1), some (.int x2), some (.int x3)]) (S1 := [.int x1, .ref 19]) zd214_1 rfl rfl rfl ?_
    refine z_ecV (vs := [.ref 19, .int x1]) (r := []) (L2 := [some (.ref 19), some (.int x1)]) zd214_2 zcV214_209 (Or.inl rfl) rfl b19 (by decide) rfl rfl rfl (Nat.le_of_ble_eq_true rfl) zm209 (Nat.le_of_ble_eq_true rfl) rfl ?_
    refine z_e1 (pc1 := 1) (L1 := [some (.ref 19), some (.int x1)]) (S1 := [.int x1]) zd209_0 rfl rfl rfl ?_
    refine z_ez (t := 16) (t2 := 16) zd209_1 rfl (z_b_ltx1 (k := 0) (by decide) (show x1.toInt < 0 from by omega)) ?_
    refine z_e1 (pc1 := 17) (L1 := [some (.ref 19), some (.int x1)]) (S1 := [.int 0]) zd209_16 rfl rfl rfl ?_
    refine z_erz zd209_17 zr209 (by decide) ?_
    show z_ev _ 214 5 [some (.ref 19), some (.int x1), some (.int x2), some (.int x3)] [.int 0] _ _
    refine z_ez (t := 36) (t2 := 36) zd214_5 rfl rfl ?_
    refine z_e1 (pc1 := 37) (L1 := [some (.ref 19), some (.int x1), some (.int x2), some (.int x3)]) (S1 := [.int 0]) zd214_36 rfl rfl rfl ?_
    refine z_erz zd214_37 zr214 (by decide) ?_
    show z_ev _ 220 7 [some (.ref 19), some (.int x1), some (.int x2), some (.int x3), none, none, none, none, none] [.int 0] _ _
    refine z_ez (t := 12) (t2 := 10) zd220_7 rfl rfl ?_
    refine z_e1 (pc1 := 11) (L1 := [some (.ref 19), some (.int x1), some (.int x2), some (.int x3), none, none, none, none, none]) (S1 := [.int (-1)]) zd220_10 rfl rfl rfl ?_
    refine z_eri zd220_11 zr220 ?_
    show z_ev _ 0 479 [some (.ref 0), some (.ref 4), some (.ref 19), some (.int 0)] [.int (-1), .int (-1)] _ _
    refine z_ej (t := 1775) (t2 := 1775) zd0_479 rfl rfl ?_
    refine z_e1 (pc1 := 1778) (L1 := [some (.ref 0), some (.ref 4), some (.ref 19), some (.int 6)]) (S1 := []) zd0_1775 rfl rfl rfl ?_
    refine z_e1 (pc1 := 18) (L1 := [some (.ref 0), some (.ref 4), some (.ref 19), some (.int 6)]) (S1 := []) zd0_1778 rfl rfl rfl ?_
    refine z_e1 (pc1 := 19) (L1 := [some (.ref 0), some (.ref 4), some (.ref 19), some (.int 6)]) (S1 := [.int 6]) zd0_18 rfl rfl rfl ?_
    refine z_e1 (pc1 := 20) (L1 := [some (.ref 0), some (.ref 4), some (.ref 19), some (.int 6)]) (S1 := [.ref 0, .int 6]) zd0_19 rfl rfl rfl ?_
    refine z_ealn (y := 6) zd0_20 h0 rfl ?_
    refine z_e1 (pc1 := 23) (L1 := [some (.ref 0), some (.ref 4), some (.ref 19), some (.int 6)]) (S1 := [.int 6, .int 6, .int 6]) zd0_21 rfl rfl rfl ?_
    refine z_e1 (pc1 := 24) (L1 := [some (.ref 0), some (.ref 4), some (.ref 19), some (.int 6)]) (S1 := [.int 0, .int 6]) zd0_23 rfl rfl rfl ?_
    refine z_ej (t := 1781) (t2 := 1781) zd0_24 rfl rfl ?_
    refine z_e1 (pc1 := 1782) (L1 := [some (.ref 0), some (.ref 4), some (.ref 19), some (.int 6)]) (S1 := [.int 1]) zd0_1781 rfl rfl rfl ?_
    refine z_erz zd0_1782 zr0 (by decide) ?_
    exact z_K1i hN hS (by decide) (by decide)
  · refine z_ez (t := 12) (t2 := 4) zd37_1 rfl (z_b_ltx0 (k := 0) (by decide) e1) ?_
    refine z_e1 (pc1 := 5) (L1 := [some (.ref 4), some (.int x1)]) (S1 := [.int x1]) zd37_4 rfl rfl rfl ?_
    refine z_e1 (pc1 := 6) (L1 := [some (.ref 4), some (.int x1)]) (S1 := [.ref 4, .int x1]) zd37_5 rfl rfl rfl ?_
    refine z_egf (fs := [.ref 5, .ref 10, .ref 11, .int 0, .ref 12, .int 0, .ref 13, .ref 14, .ref 15, .ref 16, .ref 17, .ref 18, .null]) (v := .int 0) zd37_6 zf37_59 b4 (by decide) (by decide) rfl ?_
    refine z_ej (t := 16) (t2 := 12) zd37_9 rfl (z_b_ltx0 (k := 0) (by decide) (show ¬ x1.toInt < 0 from by omega)) ?_
    refine z_e1 (pc1 := 13) (L1 := [some (.ref 4), some (.int x1)]) (S1 := [.null]) zd37_12 rfl rfl rfl ?_
    refine z_e1 (pc1 := 25) (L1 := [some (.ref 4), some (.int x1)]) (S1 := [.null]) zd37_13 rfl rfl rfl ?_
    refine z_ern zd37_25 zr37 ?_
    show z_ev _ 50 5 [some (.ref 4), some (.int x1), some (.int x2), some (.int x3), none, none] [.null] _ _
    refine z_e1 (pc1 := 7) (L1 := [some (.ref 4), some (.int x1), some (.int x2), some (.int x3), some (.null), none]) (S1 := []) zd50_5 rfl rfl rfl ?_
    refine z_e1 (pc1 := 9) (L1 := [some (.ref 4), some (.int x1), some (.int x2), some (.int x3), some (.null), none]) (S1 := [.null]) zd50_7 rfl rfl rfl ?_
    refine z_e1 (pc1 := 22) (L1 := [some (.ref 4), some (.int x1), some (.int x2), some (.int x3), some (.null), none]) (S1 := []) zd50_9 rfl rfl rfl ?_
    refine z_e1 (pc1 := 23) (L1 := [some (.ref 4), some (.int x1), some (.int x2), some (.int x3), some (.null), none]) (S1 := [.int (-1)]) zd50_22 rfl rfl rfl ?_
    refine z_eri zd50_23 zr50 ?_
    show z_ev _ 0 460 [some (.ref 0), some (.ref 4), some (.ref 19), some (.int 0)] [.int (-1)] _ _
    refine z_e1 (pc1 := 461) (L1 := [some (.ref 0), some (.ref 4), some (.ref 19), some (.int 0)]) (S1 := [.ref 19, .int (-1)]) zd0_460 rfl rfl rfl ?_
    refine z_e1 (pc1 := 462) (L1 := [some (.ref 0), some (.ref 4), some (.ref 19), some (.int 0)]) (S1 := [.ref 0, .ref 19, .int (-1)]) zd0_461 rfl rfl rfl ?_
    refine z_e1 (pc1 := 463) (L1 := [some (.ref 0), some (.ref 4), some (.ref 19), some (.int 0)]) (S1 := [.int 0, .ref 0, .ref 19, .int (-1)]) zd0_462 rfl rfl rfl ?_
    refine z_e1 (pc1 := 464) (L1 := [some (.ref 0), some (.ref 4), some (.ref 19), some (.int 0)]) (S1 := [.int 1, .int 0, .ref 0, .ref 19, .int (-1)]) zd0_463 rfl rfl rfl ?_
    refine z_e1 (pc1 := 465) (L1 := [some (.ref 0), some (.ref 4), some (.ref 19), some (.int 0)]) (S1 := [.int 1, .ref 0, .ref 19, .int (-1)]) zd0_464 rfl rfl rfl ?_
    refine z_eial (y := x1) zd0_465 h0 (by decide) g1 ?_
    refine z_e1 (pc1 := 467) (L1 := [some (.ref 0), some (.ref 4), some (.ref 19), some (.int 0)]) (S1 := [.ref 0, .int x1, .ref 19, .int (-1)]) zd0_466 rfl rfl rfl ?_
    refine z_e1 (pc1 := 468) (L1 := [some (.ref 0), some (.ref 4), some (.ref 19), some (.int 0)]) (S1 := [.int 0, .ref 0, .int x1, .ref 19, .int (-1)]) zd0_467 rfl rfl rfl ?_
    refine z_e1 (pc1 := 469) (L1 := [some (.ref 0), some (.ref 4), some (.ref 19), some (.int 0)]) (S1 := [.int 2, .int 0, .ref 0, .int x1, .ref 19, .int (-1)]) zd0_468 rfl rfl rfl ?_
    refine z_e1 (pc1 := 470) (L1 := [some (.ref 0), some (.ref 4), some (.ref 19), some (.int 0)]) (S1 := [.int 2, .ref 0, .int x1, .ref 19, .int (-1)]) zd0_469 rfl rfl rfl ?_
    refine z_eial (y := x2) zd0_470 h0 (by decide) g2 ?_
    refine z_e1 (pc1 := 472) (L1 := [some (.ref 0), some (.ref 4), some (.ref 19), some (.int 0)]) (S1 := [.ref 0, .int x2, .int x1, .ref 19, .int (-1)]) zd0_471 rfl rfl rfl ?_
    refine z_e1 (pc1 := 473) (L1 := [some (.ref 0), some (.ref 4), some (.ref 19), some (.int 0)]) (S1 := [.int 0, .ref 0, .int x2, .int x1, .ref 19, .int (-1)]) zd0_472 rfl rfl rfl ?_
    refine z_e1 (pc1 := 474) (L1 := [some (.ref 0), some (.ref 4), some (.ref 19), some (.int 0)]) (S1 := [.int 3, .int 0, .ref 0, .int x2, .int x1, .ref 19, .int (-1)]) zd0_473 rfl rfl rfl ?_
    refine z_e1 (pc1 := 475) (L1 := [some (.ref 0), some (.ref 4), some (.ref 19), some (.int 0)]) (S1 := [.int 3, .ref 0, .int x2, .int x1, .ref 19, .int (-1)]) zd0_474 rfl rfl rfl ?_
    refine z_eial (y := x3) zd0_475 h0 (by decide) g3 ?_
    refine z_ecV (vs := [.ref 19, .int x1, .int x2, .int x3]) (r := [.int (-1)]) (L2 := [some (.ref 19), some (.int x1), some (.int x2), some (.int x3), none, none, none, none, none]) zd0_476 zcV0_48 (Or.inl rfl) rfl b19 (by decide) rfl rfl rfl (Nat.le_of_ble_eq_true rfl) zm220 (Nat.le_of_ble_eq_true rfl) rfl ?_
    refine z_e1 (pc1 := 1) (L1 := [some (.ref 19), some (.int x1), some (.int x2), some (.int x3), none, none, none, none, none]) (S1 := [.ref 19]) zd220_0 rfl rfl rfl ?_
    refine z_e1 (pc1 := 2) (L1 := [some (.ref 19), some (.int x1), some (.int x2), some (.int x3), none, none, none, none, none]) (S1 := [.int x1, .ref 19]) zd220_1 rfl rfl rfl ?_
    refine z_e1 (pc1 := 3) (L1 := [some (.ref 19), some (.int x1), some (.int x2), some (.int x3), none, none, none, none, none]) (S1 := [.int x2, .int x1, .ref 19]) zd220_2 rfl rfl rfl ?_
    refine z_e1 (pc1 := 4) (L1 := [some (.ref 19), some (.int x1), some (.int x2), some (.int x3), none, none, none, none, none]) (S1 := [.int x3, .int x2, .int x1, .ref 19]) zd220_3 rfl rfl rfl ?_
    refine z_ecV (vs := [.ref 19, .int x1, .int x2, .int x3]) (r := []) (L2 := [some (.ref 19), some (.int x1), some (.int x2), some (.int x3)]) zd220_4 zcV220_219 (Or.inl rfl) rfl b19 (by decide) rfl rfl rfl (Nat.le_of_ble_eq_true rfl) zm214 (Nat.le_of_ble_eq_true rfl) rfl ?_
    refine z_e1 (pc1 := 1) (L1 := [some (.ref 19), some (.int x1), some (.int x2), some (.int x3)]) (S1 := [.ref 19]) zd214_0 rfl rfl rfl ?_
    refine z_e1 (pc1 := 2) (L1 := [some (.ref 19), some (.int x1), some (.int x2), some (.int x3)]) (S1 := [.int x1, .ref 19]) zd214_1 rfl rfl rfl ?_
    refine z_ecV (vs := [.ref 19, .int x1]) (r := []) (L2 := [some (.ref 19), some (.int x1)]) zd214_2 zcV214_209 (Or.inl rfl) rfl b19 (by decide) rfl rfl rfl (Nat.le_of_ble_eq_true rfl) zm209 (Nat.le_of_ble_eq_true rfl) rfl ?_
    refine z_e1 (pc1 := 1) (L1 := [some (.ref 19), some (.int x1)]) (S1 := [.int x1]) zd209_0 rfl rfl rfl ?_
    refine z_ez (t := 16) (t2 := 4) zd209_1 rfl (z_b_ltx0 (k := 0) (by decide) (show ¬ x1.toInt < 0 from by omega)) ?_
    refine z_e1 (pc1 := 5) (L1 := [some (.ref 19), some (.int x1)]) (S1 := [.int x1]) zd209_4 rfl rfl rfl ?_
    refine z_e1 (pc1 := 6) (L1 := [some (.ref 19), some (.int x1)]) (S1 := [.ref 19, .int x1]) zd209_5 rfl rfl rfl ?_
    refine z_egf (fs := [.ref 20, .int 0, .ref 21, .ref 22, .ref 23, .ref 24, .ref 25, .ref 26, .ref 27, .ref 28, .ref 29, .ref 30, .ref 31, .int 0, .ref 32, .ref 33, .ref 34, .ref 35, .ref 36, .ref 37, .ref 38, .int 0, .int 0, .int 0, .int 0, .int 0, .int 0, .int 0, .int 0, .int 0, .int 0, .ref 39, .ref 40, .ref 41, .int 0, .int 0, .ref 42, .ref 43, .ref 44, .ref 45, .ref 46, .int 0, .ref 47, .int 0, .int 0, .int 0, .ref 48, .int 0, .int 0, .ref 49, .ref 50, .ref 51, .ref 52]) (v := .int 0) zd209_6 zf209_110 b19 (by decide) (by decide) rfl ?_
    refine z_ej (t := 16) (t2 := 16) zd209_9 rfl (z_b_gex0 (k := 0) (by decide) (show ¬ x1.toInt < 0 from by omega)) ?_
    refine z_e1 (pc1 := 17) (L1 := [some (.ref 19), some (.int x1)]) (S1 := [.int 0]) zd209_16 rfl rfl rfl ?_
    refine z_erz zd209_17 zr209 (by decide) ?_
    show z_ev _ 214 5 [some (.ref 19), some (.int x1), some (.int x2), some (.int x3)] [.int 0] _ _
    refine z_ez (t := 36) (t2 := 36) zd214_5 rfl rfl ?_
    refine z_e1 (pc1 := 37) (L1 := [some (.ref 19), some (.int x1), some (.int x2), some (.int x3)]) (S1 := [.int 0]) zd214_36 rfl rfl rfl ?_
    refine z_erz zd214_37 zr214 (by decide) ?_
    show z_ev _ 220 7 [some (.ref 19), some (.int x1), some (.int x2), some (.int x3), none, none, none, none, none] [.int 0] _ _
    refine z_ez (t := 12) (t2 := 10) zd220_7 rfl rfl ?_
    refine z_e1 (pc1 := 11) (L1 := [some (.ref 19), some (.int x1), some (.int x2), some (.int x3), none, none, none, none, none]) (S1 := [.int (-1)]) zd220_10 rfl rfl rfl ?_
    refine z_eri zd220_11 zr220 ?_
    show z_ev _ 0 479 [some (.ref 0), some (.ref 4), some (.ref 19), some (.int 0)] [.int (-1), .int (-1)] _ _
    refine z_ej (t := 1775) (t2 := 1775) zd0_479 rfl rfl ?_
    refine z_e1 (pc1 := 1778) (L1 := [some (.ref 0), some (.ref 4), some (.ref 19), some (.int 6)]) (S1 := []) zd0_1775 rfl rfl rfl ?_
    refine z_e1 (pc1 := 18) (L1 := [some (.ref 0), some (.ref 4), some (.ref 19), some (.int 6)]) (S1 := []) zd0_1778 rfl rfl rfl ?_
    refine z_e1 (pc1 := 19) (L1 := [some (.ref 0), some (.ref 4), some (.ref 19), some (.int 6)]) (S1 := [.int 6]) zd0_18 rfl rfl rfl ?_
    refine z_e1 (pc1 := 20) (L1 := [some (.ref 0), some (.ref 4), some (.ref 19), some (.int 6)]) (S1 := [.ref 0, .int 6]) zd0_19 rfl rfl rfl ?_
    refine z_ealn (y := 6) zd0_20 h0 rfl ?_
    refine z_e1 (pc1 := 23) (L1 := [some (.ref 0), some (.ref 4), some (.ref 19), some (.int 6)]) (S1 := [.int 6, .int 6, .int 6]) zd0_21 rfl rfl rfl ?_
    refine z_e1 (pc1 := 24) (L1 := [some (.ref 0), some (.ref 4), some (.ref 19), some (.int 6)]) (S1 := [.int 0, .int 6]) zd0_23 rfl rfl rfl ?_
    refine z_ej (t := 1781) (t2 := 1781) zd0_24 rfl rfl ?_
    refine z_e1 (pc1 := 1782) (L1 := [some (.ref 0), some (.ref 4), some (.ref 19), some (.int 6)]) (S1 := [.int 1]) zd0_1781 rfl rfl rfl ?_
    refine z_erz zd0_1782 zr0 (by decide) ?_
    exact z_K1i hN hS (by decide) (by decide)
theorem z_C8 {M : zH} {xs : Nat → Int32} {x1 x2 x3 x4 x5 : Int32} (h0 : M[0]? = some (.inl (0, 6, .inl xs))) (hN : M.length = 53) (hS : z_sz M ≤ 50000) (hB : z_fr M 4 53) (g1 : xs 1 = x1) (g2 : xs 2 = x2) (g3 : xs 3 = x3) (g4 : xs 4 = x4) (g5 : xs 5 = x5) : z_ev 2047 0 484 [some (.ref 0), some (.ref 4), some (.ref 19), some (.int 0)] [] M z_K1 := by
  have b4 := z_qO (hB 4 (by decide) (by decide))
  have b19 := z_qO (hB 19 (by decide) (by decide))
  refine z_e1 (pc1 := 485) (L1 := [some (.ref 0), some (.ref 4), some (.ref 19), some (.int 0)]) (S1 := [.ref 4]) zd0_484 rfl rfl rfl ?_
  refine z_e1 (pc1 := 486) (L1 := [some (.ref 0), some (.ref 4), some (.ref 19), some (.int 0)]) (S1 := [.ref 0, .ref 4]) zd0_485 rfl rfl rfl ?_
  refine z_e1 (pc1 := 487) (L1 := [some (.ref 0), some (.ref 4), some (.ref 19), some (.int 0)]) (S1 := [.int 0, .ref 0, .ref 4]) zd0_486 rfl rfl rfl ?_
  refine z_e1 (pc1 := 488) (L1 := [some (.ref 0), some (.ref 4), some (.ref 19), some (.int 0)]) (S1 := [.int 1, .int 0, .ref 0, .ref 4]) zd0_487 rfl rfl rfl ?_
  refine z_e1 (pc1 := 489) (L1 := [some (.ref 0), some (.ref 4), some (.ref 19), some (.int 0)]) (S1 := [.int 1, .ref 0, .ref 4]) zd0_488 rfl rfl rfl ?_
  refine z_eial (y := x1) zd0_489 h0 (by decide) g1 ?_
  refine z_e1 (pc1 := 491) (L1 := [some (.ref 0), some (.ref 4), some (.ref 19), some (.int 0)]) (S1 := [.ref 0, .int x1, .ref 4]) zd0_490 rfl rfl rfl ?_
  refine z_e1 (pc1 := 492) (L1 := [some (.ref 0), some (.ref 4), some (.ref 19), some (.int 0)]) (S1 := [.int 0, .ref 0, .int x1, .ref 4]) zd0_491 rfl rfl rfl ?_
  refine z_e1 (pc1 := 493) (L1 := [some (.ref 0), some (.ref 4), some (.ref 19), some (.int 0)]) (S1 := [.int 2, .int 0, .ref 0, .int x1, .ref 4]) zd0_492 rfl rfl rfl ?_
  refine z_e1 (pc1 := 494) (L1 := [some (.ref 0), some (.ref 4), some (.ref 19), some (.int 0)]) (S1 := [.int 2, .ref 0, .int x1, .ref 4]) zd0_493 rfl rfl rfl ?_
  refine z_eial (y := x2) zd0_494 h0 (by decide) g2 ?_
  refine z_e1 (pc1 := 496) (L1 := [some (.ref 0), some (.ref 4), some (.ref 19), some (.int 0)]) (S1 := [.ref 0, .int x2, .int x1, .ref 4]) zd0_495 rfl rfl rfl ?_
  refine z_e1 (pc1 := 497) (L1 := [some (.ref 0), some (.ref 4), some (.ref 19), some (.int 0)]) (S1 := [.int 0, .ref 0, .int x2, .int x1, .ref 4]) zd0_496 rfl rfl rfl ?_
  refine z_e1 (pc1 := 498) (L1 := [some (.ref 0), some (.ref 4), some (.ref 19), some (.int 0)]) (S1 := [.int 3, .int 0, .ref 0, .int x2, .int x1, .ref 4]) zd0_497 rfl rfl rfl ?_
  refine z_e1 (pc1 := 499) (L1 := [some (.ref 0), some (.ref 4), some (.ref 19), some (.int 0)]) (S1 := [.int 3, .ref 0, .int x2, .int x1, .ref 4]) zd0_498 rfl rfl rfl ?_
  refine z_eial (y := x3) zd0_499 h0 (by decide) g3 ?_
  refine z_e1 (pc1 := 501) (L1 := [some (.ref 0), some (.ref 4), some (.ref 19), some (.int 0)]) (S1 := [.ref 0, .int x3, .int x2, .int x1, .ref 4]) zd0_500 rfl rfl rfl ?_
  refine z_e1 (pc1 := 502) (L1 := [some (.ref 0), some (.ref 4), some (.ref 19), some (.int 0)]) (S1 := [.int 0, .ref 0, .int x3, .int x2, .int x1, .ref 4]) zd0_501 rfl rfl rfl ?_
  refine z_e1 (pc1 := 503) (L1 := [some (.ref 0), some (.ref 4), some (.ref 19), some (.int 0)]) (S1 := [.int 4, .int 0, .ref 0, .int x3, .int x2, .int x1, .ref 4]) zd0_502 rfl rfl rfl ?_
  refine z_e1 (pc1 := 504) (L1 := [some (.ref 0), some (.ref 4), some (.ref 19), some (.int 0)]) (S1 := [.int 4, .ref 0, .int x3, .int x2, .int x1, .ref 4]) zd0_503 rfl rfl rfl ?_
  refine z_eial (y := x4) zd0_504 h0 (by decide) g4 ?_
  refine z_ecV (vs := [.ref 4, .int x1, .int x2, .int x3, .int x4]) (r := []) (L2 := [some (.ref 4), some (.int x1), some (.int x2), some (.int x3), some (.int x4), none]) zd0_505 zcV0_49 (Or.inl rfl) rfl b4 (by decide) rfl rfl rfl (Nat.le_of_ble_eq_true rfl) zm52 (Nat.le_of_ble_eq_true rfl) rfl ?_
  refine z_e1 (pc1 := 1) (L1 := [some (.ref 4), some (.int x1), some (.int x2), some (.int x3), some (.int x4), none]) (S1 := [.ref 4]) zd52_0 rfl rfl rfl ?_
  refine z_e1 (pc1 := 2) (L1 := [some (.ref 4), some (.int x1), some (.int x2), some (.int x3), some (.int x4), none]) (S1 := [.int x1, .ref 4]) zd52_1 rfl rfl rfl ?_
  refine z_ecV (vs := [.ref 4, .int x1]) (r := []) (L2 := [some (.ref 4), some (.int x1)]) zd52_2 zcV52_85 (Or.inl rfl) rfl b4 (by decide) rfl rfl rfl (Nat.le_of_ble_eq_true rfl) zm35 (Nat.le_of_ble_eq_true rfl) rfl ?_
  refine z_e1 (pc1 := 1) (L1 := [some (.ref 4), some (.int x1)]) (S1 := [.int x1]) zd35_0 rfl rfl rfl ?_
  by_cases e1 : x1.toInt < 0
  · refine z_ez (t := 12) (t2 := 12) zd35_1 rfl (z_b_ltx1 (k := 0) (by decide) e1) ?_
    refine z_e1 (pc1 := 13) (L1 := [some (.ref 4), some (.int x1)]) (S1 := [.null]) zd35_12 rfl rfl rfl ?_
    refine z_e1 (pc1 := 22) (L1 := [some (.ref 4), some (.int x1)]) (S1 := [.null]) zd35_13 rfl rfl rfl ?_
    refine z_ern zd35_22 zr35 ?_
    show z_ev _ 52 5 [some (.ref 4), some (.int x1), some (.int x2), some (.int x3), some (.int x4), none] [.null] _ _
    refine z_e1 (pc1 := 7) (L1 := [some (.ref 4), some (.int x1), some (.int x2), some (.int x3), some (.int x4), some (.null)]) (S1 := []) zd52_5 rfl rfl rfl ?_
    refine z_e1 (pc1 := 9) (L1 := [some (.ref 4), some (.int x1), some (.int x2), some (.int x3), some (.int x4), some (.null)]) (S1 := [.null]) zd52_7 rfl rfl rfl ?_
    refine z_e1 (pc1 := 37) (L1 := [some (.ref 4), some (.int x1), some (.int x2), some (.int x3), some (.int x4), some (.null)]) (S1 := []) zd52_9 rfl rfl rfl ?_
    refine z_e1 (pc1 := 38) (L1 := [some (.ref 4), some (.int x1), some (.int x2), some (.int x3), some (.int x4), some (.null)]) (S1 := [.int (-1)]) zd52_37 rfl rfl rfl ?_
    refine z_eri zd52_38 zr52 ?_
    show z_ev _ 0 508 [some (.ref 0), some (.ref 4), some (.ref 19), some (.int 0)] [.int (-1)] _ _
    refine z_e1 (pc1 := 509) (L1 := [some (.ref 0), some (.ref 4), some (.ref 19), some (.int 0)]) (S1 := [.ref 19, .int (-1)]) zd0_508 rfl rfl rfl ?_
    refine z_e1 (pc1 := 510) (L1 := [some (.ref 0), some (.ref 4), some (.ref 19), some (.int 0)]) (S1 := [.ref 0, .ref 19, .int (-1)]) zd0_509 rfl rfl rfl ?_
    refine z_e1 (pc1 := 511) (L1 := [some (.ref 0), some (.ref 4), some (.ref 19), some (.int 0)]) (S1 := [.int 0, .ref 0, .ref 19, .int (-1)]) zd0_510 rfl rfl rfl ?_
    refine z_e1 (pc1 := 512) (L1 := [some (.ref 0), some (.ref 4), some (.ref 19), some (.int 0)]) (S1 := [.int 1, .int 0, .ref 0, .ref 19, .int (-1)]) zd0_511 rfl rfl rfl ?_
    refine z_e1 (pc1 := 513) (L1 := [some (.ref 0), some (.ref 4), some (.ref 19), some (.int 0)]) (S1 := [.int 1, .ref 0, .ref 19, .int (-1)]) zd0_512 rfl rfl rfl ?_
    refine z_eial (y := x1) zd0_513 h0 (by decide) g1 ?_
    refine z_e1 (pc1 := 515) (L1 := [some (.ref 0), some (.ref 4), some (.ref 19), some (.int 0)]) (S1 := [.ref 0, .int x1, .ref 19, .int (-1)]) zd0_514 rfl rfl rfl ?_
    refine z_e1 (pc1 := 516) (L1 := [some (.ref 0), some (.ref 4), some (.ref 19), some (.int 0)]) (S1 := [.int 0, .ref 0, .int x1, .ref 19, .int (-1)]) zd0_515 rfl rfl rfl ?_
    refine z_e1 (pc1 := 517) (L1 := [some (.ref 0), some (.ref 4), some (.ref 19), some (.int 0)]) (S1 := [.int 2, .int 0, .ref 0, .int x1, .ref 19, .int (-1)]) zd0_516 rfl rfl rfl ?_
    refine z_e1 (pc1 := 518) (L1 := [some (.ref 0), some (.ref 4), some (.ref 19), some (.int 0)]) (S1 := [.int 2, .ref 0, .int x1, .ref 19, .int (-1)]) zd0_517 rfl rfl rfl ?_
    refine z_eial (y := x2) zd0_518 h0 (by decide) g2 ?_
    refine z_e1 (pc1 := 520) (L1 := [some (.ref 0), some (.ref 4), some (.ref 19), some (.int 0)]) (S1 := [.ref 0, .int x2, .int x1, .ref 19, .int (-1)]) zd0_519 rfl rfl rfl ?_
    refine z_e1 (pc1 := 521) (L1 := [some (.ref 0), some (.ref 4), some (.ref 19), some (.int 0)]) (S1 := [.int 0, .ref 0, .int x2, .int x1, .ref 19, .int (-1)]) zd0_520 rfl rfl rfl ?_
    refine z_e1 (pc1 := 522) (L1 := [some (.ref 0), some (.ref 4), some (.ref 19), some (.int 0)]) (S1 := [.int 3, .int 0, .ref 0, .int x2, .int x1, .ref 19, .int (-1)]) zd0_521 rfl rfl rfl ?_
    refine z_e1 (pc1 := 523) (L1 := [some (.ref 0), some (.ref 4), some (.ref 19), some (.int 0)]) (S1 := [.int 3, .ref 0, .int x2, .int x1, .ref 19, .int (-1)]) zd0_522 rfl rfl rfl ?_
    refine z_eial (y := x3) zd0_523 h0 (by decide) g3 ?_
    refine z_e1 (pc1 := 525) (L1 := [some (.ref 0), some (.ref 4), some (.ref 19), some (.int 0)]) (S1 := [.ref 0, .int x3, .int x2, .int x1, .ref 19, .int (-1)]) zd0_524 rfl rfl rfl ?_
    refine z_e1 (pc1 := 526) (L1 := [some (.ref 0), some (.ref 4), some (.ref 19), some (.int 0)]) (S1 := [.int 0, .ref 0, .int x3, .int x2, .int x1, .ref 19, .int (-1)]) zd0_525 rfl rfl rfl ?_
    refine z_e1 (pc1 := 527) (L1 := [some (.ref 0), some (.ref 4), some (.ref 19), some (.int 0)]) (S1 := [.int 4, .int 0, .ref 0, .int x3, .int x2, .int x1, .ref 19, .int (-1)]) zd0_526 rfl rfl rfl ?_
    refine z_e1 (pc1 := 528) (L1 := [some (.ref 0), some (.ref 4), some (.ref 19), some (.int 0)]) (S1 := [.int 4, .ref 0, .int x3, .int x2, .int x1, .ref 19, .int (-1)]) zd0_527 rfl rfl rfl ?_
    refine z_eial (y := x4) zd0_528 h0 (by decide) g4 ?_
    refine z_ecV (vs := [.ref 19, .int x1, .int x2, .int x3, .int x4]) (r := [.int (-1)]) (L2 := [some (.ref 19), some (.int x1), some (.int x2), some (.int x3), some (.int x4), none]) zd0_529 zcV0_52 (Or.inl rfl) rfl b19 (by decide) rfl rfl rfl (Nat.le_of_ble_eq_true rfl) zm221 (Nat.le_of_ble_eq_true rfl) rfl ?_
    refine z_e1 (pc1 := 1) (L1 := [some (.ref 19), some (.int x1), some (.int x2), some (.int x3), some (.int x4), none]) (S1 := [.ref 19]) zd221_0 rfl rfl rfl ?_
    refine z_e1 (pc1 := 2) (L1 := [some (.ref 19), some (.int x1), some (.int x2), some (.int x3), some (.int x4), none]) (S1 := [.int x1, .ref 19]) zd221_1 rfl rfl rfl ?_
    refine z_e1 (pc1 := 3) (L1 := [some (.ref 19), some (.int x1), some (.int x2), some (.int x3), some (.int x4), none]) (S1 := [.int x3, .int x1, .ref 19]) zd221_2 rfl rfl rfl ?_
    refine z_e1 (pc1 := 5) (L1 := [some (.ref 19), some (.int x1), some (.int x2), some (.int x3), some (.int x4), none]) (S1 := [.int x4, .int x3, .int x1, .ref 19]) zd221_3 rfl rfl rfl ?_
    refine z_ecV (vs := [.ref 19, .int x1, .int x3, .int x4]) (r := []) (L2 := [some (.ref 19), some (.int x1), some (.int x3), some (.int x4)]) zd221_5 zcV221_219 (Or.inl rfl) rfl b19 (by decide) rfl rfl rfl (Nat.le_of_ble_eq_true rfl) zm214 (Nat.le_of_ble_eq_true rfl) rfl ?_
    refine z_e1 (pc1 := 1) (L1 := [some (.ref 19), some (.int x1), some (.int x3), some (.int x4)]) (S1 := [.ref 19]) zd214_0 rfl rfl rfl ?_
    refine z_e1 (pc1 := 2) (L1 := [some (.ref 19), some (.int x1), some (.int x3), some (.int x4)]) (S1 := [.int x1, .ref 19]) zd214_1 rfl rfl rfl ?_
    refine z_ecV (vs := [.ref 19, .int x1]) (r := []) (L2 := [some (.ref 19), some (.int x1)]) zd214_2 zcV214_209 (Or.inl rfl) rfl b19 (by decide) rfl rfl rfl (Nat.le_of_ble_eq_true rfl) zm209 (Nat.le_of_ble_eq_true rfl) rfl ?_
    refine z_e1 (pc1 := 1) (L1 := [some (.ref 19), some (.int x1)]) (S1 := [.int x1]) zd209_0 rfl rfl rfl ?_
    refine z_ez (t := 16) (t2 := 16) zd209_1 rfl (z_b_ltx1 (k := 0) (by decide) (show x1.toInt < 0 from by omega)) ?_
    refine z_e1 (pc1 := 17) (L1 := [some (.ref 19), some (.int x1)]) (S1 := [.int 0]) zd209_16 rfl rfl rfl ?_
    refine z_erz zd209_17 zr209 (by decide) ?_
    show z_ev _ 214 5 [some (.ref 19), some (.int x1), some (.int x3), some (.int x4)] [.int 0] _ _
    refine z_ez (t := 36) (t2 := 36) zd214_5 rfl rfl ?_
    refine z_e1 (pc1 := 37) (L1 := [some (.ref 19), some (.int x1), some (.int x3), some (.int x4)]) (S1 := [.int 0]) zd214_36 rfl rfl rfl ?_
    refine z_erz zd214_37 zr214 (by decide) ?_
    show z_ev _ 221 8 [some (.ref 19), some (.int x1), some (.int x2), some (.int x3), some (.int x4), none] [.int 0] _ _
    refine z_ez (t := 23) (t2 := 23) zd221_8 rfl rfl ?_
    refine z_e1 (pc1 := 24) (L1 := [some (.ref 19), some (.int x1), some (.int x2), some (.int x3), some (.int x4), none]) (S1 := [.int (-1)]) zd221_23 rfl rfl rfl ?_
    refine z_eri zd221_24 zr221 ?_
    show z_ev _ 0 532 [some (.ref 0), some (.ref 4), some (.ref 19), some (.int 0)] [.int (-1), .int (-1)] _ _
    refine z_ej (t := 1775) (t2 := 1775) zd0_532 rfl rfl ?_
    refine z_e1 (pc1 := 1778) (L1 := [some (.ref 0), some (.ref 4), some (.ref 19), some (.int 6)]) (S1 := []) zd0_1775 rfl rfl rfl ?_
    refine z_e1 (pc1 := 18) (L1 := [some (.ref 0), some (.ref 4), some (.ref 19), some (.int 6)]) (S1 := []) zd0_1778 rfl rfl rfl ?_
    refine z_e1 (pc1 := 19) (L1 := [some (.ref 0), some (.ref 4), some (.ref 19), some (.int 6)]) (S1 := [.int 6]) zd0_18 rfl rfl rfl ?_
    refine z_e1 (pc1 := 20) (L1 := [some (.ref 0), some (.ref 4), some (.ref 19), some (.int 6)]) (S1 := [.ref 0, .int 6]) zd0_19 rfl rfl rfl ?_
    refine z_ealn (y := 6) zd0_20 h0 rfl ?_
    refine z_e1 (pc1 := 23) (L1 := [some (.ref 0), some (.ref 4), some (.ref 19), some (.int 6)]) (S1 := [.int 6, .int 6, .int 6]) zd0_21 rfl rfl rfl ?_
    refine z_e1 (pc1 := 24) (L1 := [some (.ref 0), some (.ref 4), some (.ref 19), some (.int 6)]) (S1 := [.int 0, .int 6]) zd0_23 rfl rfl rfl ?_
    refine z_ej (t := 1781) (t2 := 1781) zd0_24 rfl rfl ?_
    refine z_e1 (pc1 := 1782) (L1 := [some (.ref 0), some (.ref 4), some (.ref 19), some (.int 6)]) (S1 := [.int 1]) zd0_1781 rfl rfl rfl ?_
    refine z_erz zd0_1782 zr0 (by decide) ?_
    exact z_K1i hN hS (by decide) (by decide)
  · refine z_ez (t := 12) (t2 := 4) zd35_1 rfl (z_b_ltx0 (k := 0) (by decide) e1) ?_
    refine z_e1 (pc1 := 5) (L1 := [some (.ref 4), some (.int x1)]) (S1 := [.int x1]) zd35_4 rfl rfl rfl ?_
    refine z_e1 (pc1 := 6) (L1 := [some (.ref 4), some (.int x1)]) (S1 := [.ref 4, .int x1]) zd35_5 rfl rfl rfl ?_
    refine z_egf (fs := [.ref 5, .ref 10, .ref 11, .int 0, .ref 12, .int 0, .ref 13, .ref 14, .ref 15, .ref 16, .ref 17, .ref 18, .null]) (v := .int 0) zd35_6 zf35_59 b4 (by decide) (by decide) rfl ?_
    refine z_ej (t := 16) (t2 := 12) zd35_9 rfl (z_b_ltx0 (k := 0) (by decide) (show ¬ x1.toInt < 0 from by omega)) ?_
    refine z_e1 (pc1 := 13) (L1 := [some (.ref 4), some (.int x1)]) (S1 := [.null]) zd35_12 rfl rfl rfl ?_
    refine z_e1 (pc1 := 22) (L1 := [some (.ref 4), some (.int x1)]) (S1 := [.null]) zd35_13 rfl rfl rfl ?_
    refine z_ern zd35_22 zr35 ?_
    show z_ev _ 52 5 [some (.ref 4), some (.int x1), some (.int x2), some (.int x3), some (.int x4), none] [.null] _ _
    refine z_e1 (pc1 := 7) (L1 := [some (.ref 4), some (.int x1), some (.int x2), some (.int x3), some (.int x4), some (.null)]) (S1 := []) zd52_5 rfl rfl rfl ?_
    refine z_e1 (pc1 := 9) (L1 := [some (.ref 4), some (.int x1), some (.int x2), some (.int x3), some (.int x4), some (.null)]) (S1 := [.null]) zd52_7 rfl rfl rfl ?_
    refine z_e1 (pc1 := 37) (L1 := [some (.ref 4), some (.int x1), some (.int x2), some (.int x3), some (.int x4), some (.null)]) (S1 := []) zd52_9 rfl rfl rfl ?_
    refine z_e1 (pc1 := 38) (L1 := [some (.ref 4), some (.int x1), some (.int x2), some (.int x3), some (.int x4), some (.null)]) (S1 := [.int (-1)]) zd52_37 rfl rfl rfl ?_
    refine z_eri zd52_38 zr52 ?_
    show z_ev _ 0 508 [some (.ref 0), some (.ref 4), some (.ref 19), some (.int 0)] [.int (-1)] _ _
    refine z_e1 (pc1 := 509) (L1 := [some (.ref 0), some (.ref 4), some (.ref 19), some (.int 0)]) (S1 := [.ref 19, .int (-1)]) zd0_508 rfl rfl rfl ?_
    refine z_e1 (pc1 := 510) (L1 := [some (.ref 0), some (.ref 4), some (.ref 19), some (.int 0)]) (S1 := [.ref 0, .ref 19, .int (-1)]) zd0_509 rfl rfl rfl ?_
    refine z_e1 (pc1 := 511) (L1 := [some (.ref 0), some (.ref 4), some (.ref 19), some (.int 0)]) (S1 := [.int 0, .ref 0, .ref 19, .int (-1)]) zd0_510 rfl rfl rfl ?_
    refine z_e1 (pc1 := 512) (L1 := [some (.ref 0), some (.ref 4), some (.ref 19), some (.int 0)]) (S1 := [.int 1, .int 0, .ref 0, .ref 19, .int (-1)]) zd0_511 rfl rfl rfl ?_
    refine z_e1 (pc1 := 513) (L1 := [some (.ref 0), some (.ref 4), some (.ref 19), some (.int 0)]) (S1 := [.int 1, .ref 0, .ref 19, .int (-1)]) zd0_512 rfl rfl rfl ?_
    refine z_eial (y := x1) zd0_513 h0 (by decide) g1 ?_
    refine z_e1 (pc1 := 515) (L1 := [some (.ref 0), some (.ref 4), some (.ref 19), some (.int 0)]) (S1 := [.ref 0, .int x1, .ref 19, .int (-1)]) zd0_514 rfl rfl rfl ?_
    refine z_e1 (pc1 := 516) (L1 := [some (.ref 0), some (.ref 4), some (.ref 19), some (.int 0)]) (S1 := [.int 0, .ref 0, .int x1, .ref 19, .int (-1)]) zd0_515 rfl rfl rfl ?_
    refine z_e1 (pc1 := 517) (L1 := [some (.ref 0), some (.ref 4), some (.ref 19), some (.int 0)]) (S1 := [.int 2, .int 0, .ref 0, .int x1, .ref 19, .int (-1)]) zd0_516 rfl rfl rfl ?_
    refine z_e1 (pc1 := 518) (L1 := [some (.ref 0), some (.ref 4), some (.ref 19), some (.int 0)]) (S1 := [.int 2, .ref 0, .int x1, .ref 19, .int (-1)]) zd0_517 rfl rfl rfl ?_
    refine z_eial (y := x2) zd0_518 h0 (by decide) g2 ?_
    refine z_e1 (pc1 := 520) (L1 := [some (.ref 0), some (.ref 4), some (.ref 19), some (.int 0)]) (S1 := [.ref 0, .int x2, .int x1, .ref 19, .int (-1)]) zd0_519 rfl rfl rfl ?_
    refine z_e1 (pc1 := 521) (L1 := [some (.ref 0), some (.ref 4), some (.ref 19), some (.int 0)]) (S1 := [.int 0, .ref 0, .int x2, .int x1, .ref 19, .int (-1)]) zd0_520 rfl rfl rfl ?_
    refine z_e1 (pc1 := 522) (L1 := [some (.ref 0), some (.ref 4), some (.ref 19), some (.int 0)]) (S1 := [.int 3, .int 0, .ref 0, .int x2, .int x1, .ref 19, .int (-1)]) zd0_521 rfl rfl rfl ?_
    refine z_e1 (pc1 := 523) (L1 := [some (.ref 0), some (.ref 4), some (.ref 19), some (.int 0)]) (S1 := [.int 3, .ref 0, .int x2, .int x1, .ref 19, .int (-1)]) zd0_522 rfl rfl rfl ?_
    refine z_eial (y := x3) zd0_523 h0 (by decide) g3 ?_
    refine z_e1 (pc1 := 525) (L1 := [some (.ref 0), some (.ref 4), some (.ref 19), some (.int 0)]) (S1 := [.ref 0, .int x3, .int x2, .int x1, .ref 19, .int (-1)]) zd0_524 rfl rfl rfl ?_
    refine z_e1 (pc1 := 526) (L1 := [some (.ref 0), some (.ref 4), some (.ref 19), some (.int 0)]) (S1 := [.int 0, .ref 0, .int x3, .int x2, .int x1, .ref 19, .int (-1)]) zd0_525 rfl rfl rfl ?_
    refine z_e1 (pc1 := 527) (L1 := [some (.ref 0), some (.ref 4), some (.ref 19), some (.int 0)]) (S1 := [.int 4, .int 0, .ref 0, .int x3, .int x2, .int x1, .ref 19, .int (-1)]) zd0_526 rfl rfl rfl ?_
    refine z_e1 (pc1 := 528) (L1 := [some (.ref 0), some (.ref 4), some (.ref 19), some (.int 0)]) (S1 := [.int 4, .ref 0, .int x3, .int x2, .int x1, .ref 19, .int (-1)]) zd0_527 rfl rfl rfl ?_
    refine z_eial (y := x4) zd0_528 h0 (by decide) g4 ?_
    refine z_ecV (vs := [.ref 19, .int x1, .int x2, .int x3, .int x4]) (r := [.int (-1)]) (L2 := [some (.ref 19), some (.int x1), some (.int x2), some (.int x3), some (.int x4), none]) zd0_529 zcV0_52 (Or.inl rfl) rfl b19 (by decide) rfl rfl rfl (Nat.le_of_ble_eq_true rfl) zm221 (Nat.le_of_ble_eq_true rfl) rfl ?_
    refine z_e1 (pc1 := 1) (L1 := [some (.ref 19), some (.int x1), some (.int x2), some (.int x3), some (.int x4), none]) (S1 := [.ref 19]) zd221_0 rfl rfl rfl ?_
    refine z_e1 (pc1 := 2) (L1 := [some (.ref 19), some (.int x1), some (.int x2), some (.int x3), some (.int x4), none]) (S1 := [.int x1, .ref 19]) zd221_1 rfl rfl rfl ?_
    refine z_e1 (pc1 := 3) (L1 := [some (.ref 19), some (.int x1), some (.int x2), some (.int x3), some (.int x4), none]) (S1 := [.int x3, .int x1, .ref 19]) zd221_2 rfl rfl rfl ?_
    refine z_e1 (pc1 := 5) (L1 := [some (.ref 19), some (.int x1), some (.int x2), some (.int x3), some (.int x4), none]) (S1 := [.int x4, .int x3, .int x1, .ref 19]) zd221_3 rfl rfl rfl ?_
    refine z_ecV (vs := [.ref 19, .int x1, .int x3, .int x4]) (r := []) (L2 := [some (.ref 19), some (.int x1), some (.int x3), some (.int x4)]) zd221_5 zcV221_219 (Or.inl rfl) rfl b19 (by decide) rfl rfl rfl (Nat.le_of_ble_eq_true rfl) zm214 (Nat.le_of_ble_eq_true rfl) rfl ?_
    refine z_e1 (pc1 := 1) (L1 := [some (.ref 19), some (.int x1), some (.int x3), some (.int x4)]) (S1 := [.ref 19]) zd214_0 rfl rfl rfl ?_
    refine z_e1 (pc1 := 2) (L1 := [some (.ref 19), some (.int x1), some (.int x3), some (.int x4)]) (S1 := [.int x1, .ref 19]) zd214_1 rfl rfl rfl ?_
    refine z_ecV (vs := [.ref 19, .int x1]) (r := []) (L2 := [some (.ref 19), some (.int x1)]) zd214_2 zcV214_209 (Or.inl rfl) rfl b19 (by decide) rfl rfl rfl (Nat.le_of_ble_eq_true rfl) zm209 (Nat.le_of_ble_eq_true rfl) rfl ?_
    refine z_e1 (pc1 := 1) (L1 := [some (.ref 19), some (.int x1)]) (S1 := [.int x1]) zd209_0 rfl rfl rfl ?_
    refine z_ez (t := 16) (t2 := 4) zd209_1 rfl (z_b_ltx0 (k := 0) (by decide) (show ¬ x1.toInt < 0 from by omega)) ?_
    refine z_e1 (pc1 := 5) (L1 := [some (.ref 19), some (.int x1)]) (S1 := [.int x1]) zd209_4 rfl rfl rfl ?_
    refine z_e1 (pc1 := 6) (L1 := [some (.ref 19), some (.int x1)]) (S1 := [.ref 19, .int x1]) zd209_5 rfl rfl rfl ?_
    refine z_egf (fs := [.ref 20, .int 0, .ref 21, .ref 22, .ref 23, .ref 24, .ref 25, .ref 26, .ref 27, .ref 28, .ref 29, .ref 30, .ref 31, .int 0, .ref 32, .ref 33, .ref 34, .ref 35, .ref 36, .ref 37, .ref 38, .int 0, .int 0, .int 0, .int 0, .int 0, .int 0, .int 0, .int 0, .int 0, .int 0, .ref 39, .ref 40, .ref 41, .int 0, .int 0, .ref 42, .ref 43, .ref 44, .ref 45, .ref 46, .int 0, .ref 47, .int 0, .int 0, .int 0, .ref 48, .int 0, .int 0, .ref 49, .ref 50, .ref 51, .ref 52]) (v := .int 0) zd209_6 zf209_110 b19 (by decide) (by decide) rfl ?_
    refine z_ej (t := 16) (t2 := 16) zd209_9 rfl (z_b_gex0 (k := 0) (by decide) (show ¬ x1.toInt < 0 from by omega)) ?_
    refine z_e1 (pc1 := 17) (L1 := [some (.ref 19), some (.int x1)]) (S1 := [.int 0]) zd209_16 rfl rfl rfl ?_
    refine z_erz zd209_17 zr209 (by decide) ?_
    show z_ev _ 214 5 [some (.ref 19), some (.int x1), some (.int x3), some (.int x4)] [.int 0] _ _
    refine z_ez (t := 36) (t2 := 36) zd214_5 rfl rfl ?_
    refine z_e1 (pc1 := 37) (L1 := [some (.ref 19), some (.int x1), some (.int x3), some (.int x4)]) (S1 := [.int 0]) zd214_36 rfl rfl rfl ?_
    refine z_erz zd214_37 zr214 (by decide) ?_
    show z_ev _ 221 8 [some (.ref 19), some (.int x1), some (.int x2), some (.int x3), some (.int x4), none] [.int 0] _ _
    refine z_ez (t := 23) (t2 := 23) zd221_8 rfl rfl ?_
    refine z_e1 (pc1 := 24) (L1 := [some (.ref 19), some (.int x1), some (.int x2), some (.int x3), some (.int x4), none]) (S1 := [.int (-1)]) zd221_23 rfl rfl rfl ?_
    refine z_eri zd221_24 zr221 ?_
    show z_ev _ 0 532 [some (.ref 0), some (.ref 4), some (.ref 19), some (.int 0)] [.int (-1), .int (-1)] _ _
    refine z_ej (t := 1775) (t2 := 1775) zd0_532 rfl rfl ?_
    refine z_e1 (pc1 := 1778) (L1 := [some (.ref 0), some (.ref 4), some (.ref 19), some (.int 6)]) (S1 := []) zd0_1775 rfl rfl rfl ?_
    refine z_e1 (pc1 := 18) (L1 := [some (.ref 0), some (.ref 4), some (.ref 19), some (.int 6)]) (S1 := []) zd0_1778 rfl rfl rfl ?_
    refine z_e1 (pc1 := 19) (L1 := [some (.ref 0), some (.ref 4), some (.ref 19), some (.int 6)]) (S1 := [.int 6]) zd0_18 rfl rfl rfl ?_
    refine z_e1 (pc1 := 20) (L1 := [some (.ref 0), some (.ref 4), some (.ref 19), some (.int 6)]) (S1 := [.ref 0, .int 6]) zd0_19 rfl rfl rfl ?_
    refine z_ealn (y := 6) zd0_20 h0 rfl ?_
    refine z_e1 (pc1 := 23) (L1 := [some (.ref 0), some (.ref 4), some (.ref 19), some (.int 6)]) (S1 := [.int 6, .int 6, .int 6]) zd0_21 rfl rfl rfl ?_
    refine z_e1 (pc1 := 24) (L1 := [some (.ref 0), some (.ref 4), some (.ref 19), some (.int 6)]) (S1 := [.int 0, .int 6]) zd0_23 rfl rfl rfl ?_
    refine z_ej (t := 1781) (t2 := 1781) zd0_24 rfl rfl ?_
    refine z_e1 (pc1 := 1782) (L1 := [some (.ref 0), some (.ref 4), some (.ref 19), some (.int 6)]) (S1 := [.int 1]) zd0_1781 rfl rfl rfl ?_
    refine z_erz zd0_1782 zr0 (by decide) ?_
    exact z_K1i hN hS (by decide) (by decide)
theorem z_C9 {M : zH} {xs : Nat → Int32} {x1 x2 x3 x4 x5 : Int32} (h0 : M[0]? = some (.inl (0, 6, .inl xs))) (hN : M.length = 53) (hS : z_sz M ≤ 50000) (hB : z_fr M 4 53) (g1 : xs 1 = x1) (g2 : xs 2 = x2) (g3 : xs 3 = x3) (g4 : xs 4 = x4) (g5 : xs 5 = x5) : z_ev 2047 0 537 [some (.ref 0), some (.ref 4), some (.ref 19), some (.int 0)] [] M z_K1 := by
  have b4 := z_qO (hB 4 (by decide) (by decide))
  have b19 := z_qO (hB 19 (by decide) (by decide))
  refine z_e1 (pc1 := 538) (L1 := [some (.ref 0), some (.ref 4), some (.ref 19), some (.int 0)]) (S1 := [.ref 4]) zd0_537 rfl rfl rfl ?_
  refine z_e1 (pc1 := 539) (L1 := [some (.ref 0), some (.ref 4), some (.ref 19), some (.int 0)]) (S1 := [.ref 0, .ref 4]) zd0_538 rfl rfl rfl ?_
  refine z_e1 (pc1 := 540) (L1 := [some (.ref 0), some (.ref 4), some (.ref 19), some (.int 0)]) (S1 := [.int 0, .ref 0, .ref 4]) zd0_539 rfl rfl rfl ?_
  refine z_e1 (pc1 := 541) (L1 := [some (.ref 0), some (.ref 4), some (.ref 19), some (.int 0)]) (S1 := [.int 1, .int 0, .ref 0, .ref 4]) zd0_540 rfl rfl rfl ?_
  refine z_e1 (pc1 := 542) (L1 := [some (.ref 0), some (.ref 4), some (.ref 19), some (.int 0)]) (S1 := [.int 1, .ref 0, .ref 4]) zd0_541 rfl rfl rfl ?_
  refine z_eial (y := x1) zd0_542 h0 (by decide) g1 ?_
  refine z_e1 (pc1 := 544) (L1 := [some (.ref 0), some (.ref 4), some (.ref 19), some (.int 0)]) (S1 := [.ref 0, .int x1, .ref 4]) zd0_543 rfl rfl rfl ?_
  refine z_e1 (pc1 := 545) (L1 := [some (.ref 0), some (.ref 4), some (.ref 19), some (.int 0)]) (S1 := [.int 0, .ref 0, .int x1, .ref 4]) zd0_544 rfl rfl rfl ?_
  refine z_e1 (pc1 := 546) (L1 := [some (.ref 0), some (.ref 4), some (.ref 19), some (.int 0)]) (S1 := [.int 2, .int 0, .ref 0, .int x1, .ref 4]) zd0_545 rfl rfl rfl ?_
  refine z_e1 (pc1 := 547) (L1 := [some (.ref 0), some (.ref 4), some (.ref 19), some (.int 0)]) (S1 := [.int 2, .ref 0, .int x1, .ref 4]) zd0_546 rfl rfl rfl ?_
  refine z_eial (y := x2) zd0_547 h0 (by decide) g2 ?_
  refine z_e1 (pc1 := 549) (L1 := [some (.ref 0), some (.ref 4), some (.ref 19), some (.int 0)]) (S1 := [.ref 0, .int x2, .int x1, .ref 4]) zd0_548 rfl rfl rfl ?_
  refine z_e1 (pc1 := 550) (L1 := [some (.ref 0), some (.ref 4), some (.ref 19), some (.int 0)]) (S1 := [.int 0, .ref 0, .int x2, .int x1, .ref 4]) zd0_549 rfl rfl rfl ?_
  refine z_e1 (pc1 := 551) (L1 := [some (.ref 0), some (.ref 4), some (.ref 19), some (.int 0)]) (S1 := [.int 3, .int 0, .ref 0, .int x2, .int x1, .ref 4]) zd0_550 rfl rfl rfl ?_
  refine z_e1 (pc1 := 552) (L1 := [some (.ref 0), some (.ref 4), some (.ref 19), some (.int 0)]) (S1 := [.int 3, .ref 0, .int x2, .int x1, .ref 4]) zd0_551 rfl rfl rfl ?_
  refine z_eial (y := x3) zd0_552 h0 (by decide) g3 ?_
  refine z_e1 (pc1 := 554) (L1 := [some (.ref 0), some (.ref 4), some (.ref 19), some (.int 0)]) (S1 := [.ref 0, .int x3, .int x2, .int x1, .ref 4]) zd0_553 rfl rfl rfl ?_
  refine z_e1 (pc1 := 555) (L1 := [some (.ref 0), some (.ref 4), some (.ref 19), some (.int 0)]) (S1 := [.int 0, .ref 0, .int x3, .int x2, .int x1, .ref 4]) zd0_554 rfl rfl rfl ?_
  refine z_e1 (pc1 := 556) (L1 := [some (.ref 0), some (.ref 4), some (.ref 19), some (.int 0)]) (S1 := [.int 4, .int 0, .ref 0, .int x3, .int x2, .int x1, .ref 4]) zd0_555 rfl rfl rfl ?_
  refine z_e1 (pc1 := 557) (L1 := [some (.ref 0), some (.ref 4), some (.ref 19), some (.int 0)]) (S1 := [.int 4, .ref 0, .int x3, .int x2, .int x1, .ref 4]) zd0_556 rfl rfl rfl ?_
  refine z_eial (y := x4) zd0_557 h0 (by decide) g4 ?_
  refine z_ecV (vs := [.ref 4, .int x1, .int x2, .int x3, .int x4]) (r := []) (L2 := [some (.ref 4), some (.int x1), some (.int x2), some (.int x3), some (.int x4), none]) zd0_558 zcV0_53 (Or.inl rfl) rfl b4 (by decide) rfl rfl rfl (Nat.le_of_ble_eq_true rfl) zm55 (Nat.le_of_ble_eq_true rfl) rfl ?_
  refine z_e1 (pc1 := 1) (L1 := [some (.ref 4), some (.int x1), some (.int x2), some (.int x3), some (.int x4), none]) (S1 := [.ref 4]) zd55_0 rfl rfl rfl ?_
  refine z_e1 (pc1 := 2) (L1 := [some (.ref 4), some (.int x1), some (.int x2), some (.int x3), some (.int x4), none]) (S1 := [.int x1, .ref 4]) zd55_1 rfl rfl rfl ?_
  refine z_ecV (vs := [.ref 4, .int x1]) (r := []) (L2 := [some (.ref 4), some (.int x1)]) zd55_2 zcV55_85 (Or.inl rfl) rfl b4 (by decide) rfl rfl rfl (Nat.le_of_ble_eq_true rfl) zm35 (Nat.le_of_ble_eq_true rfl) rfl ?_
  refine z_e1 (pc1 := 1) (L1 := [some (.ref 4), some (.int x1)]) (S1 := [.int x1]) zd35_0 rfl rfl rfl ?_
  by_cases e1 : x1.toInt < 0
  · refine z_ez (t := 12) (t2 := 12) zd35_1 rfl (z_b_ltx1 (k := 0) (by decide) e1) ?_
    refine z_e1 (pc1 := 13) (L1 := [some (.ref 4), some (.int x1)]) (S1 := [.null]) zd35_12 rfl rfl rfl ?_
    refine z_e1 (pc1 := 22) (L1 := [some (.ref 4), some (.int x1)]) (S1 := [.null]) zd35_13 rfl rfl rfl ?_
    refine z_ern zd35_22 zr35 ?_
    show z_ev _ 55 5 [some (.ref 4), some (.int x1), some (.int x2), some (.int x3), some (.int x4), none] [.null] _ _
    refine z_e1 (pc1 := 7) (L1 := [some (.ref 4), some (.int x1), some (.int x2), some (.int x3), some (.int x4), some (.null)]) (S1 := []) zd55_5 rfl rfl rfl ?_
    refine z_e1 (pc1 := 9) (L1 := [some (.ref 4), some (.int x1), some (.int x2), some (.int x3), some (.int x4), some (.null)]) (S1 := [.null]) zd55_7 rfl rfl rfl ?_
    refine z_e1 (pc1 := 35) (L1 := [some (.ref 4), some (.int x1), some (.int x2), some (.int x3), some (.int x4), some (.null)]) (S1 := []) zd55_9 rfl rfl rfl ?_
    refine z_e1 (pc1 := 36) (L1 := [some (.ref 4), some (.int x1), some (.int x2), some (.int x3), some (.int x4), some (.null)]) (S1 := [.int (-1)]) zd55_35 rfl rfl rfl ?_
    refine z_eri zd55_36 zr55 ?_
    show z_ev _ 0 561 [some (.ref 0), some (.ref 4), some (.ref 19), some (.int 0)] [.int (-1)] _ _
    refine z_e1 (pc1 := 562) (L1 := [some (.ref 0), some (.ref 4), some (.ref 19), some (.int 0)]) (S1 := [.ref 19, .int (-1)]) zd0_561 rfl rfl rfl ?_
    refine z_e1 (pc1 := 563) (L1 := [some (.ref 0), some (.ref 4), some (.ref 19), some (.int 0)]) (S1 := [.ref 0, .ref 19, .int (-1)]) zd0_562 rfl rfl rfl ?_
    refine z_e1 (pc1 := 564) (L1 := [some (.ref 0), some (.ref 4), some (.ref 19), some (.int 0)]) (S1 := [.int 0, .ref 0, .ref 19, .int (-1)]) zd0_563 rfl rfl rfl ?_
    refine z_e1 (pc1 := 565) (L1 := [some (.ref 0), some (.ref 4), some (.ref 19), some (.int 0)]) (S1 := [.int 1, .int 0, .ref 0, .ref 19, .int (-1)]) zd0_564 rfl rfl rfl ?_
    refine z_e1 (pc1 := 566) (L1 := [some (.ref 0), some (.ref 4), some (.ref 19), some (.int 0)]) (S1 := [.int 1, .ref 0, .ref 19, .int (-1)]) zd0_565 rfl rfl rfl ?_
    refine z_eial (y := x1) zd0_566 h0 (by decide) g1 ?_
    refine z_e1 (pc1 := 568) (L1 := [some (.ref 0), some (.ref 4), some (.ref 19), some (.int 0)]) (S1 := [.ref 0, .int x1, .ref 19, .int (-1)]) zd0_567 rfl rfl rfl ?_
    refine z_e1 (pc1 := 569) (L1 := [some (.ref 0), some (.ref 4), some (.ref 19), some (.int 0)]) (S1 := [.int 0, .ref 0, .int x1, .ref 19, .int (-1)]) zd0_568 rfl rfl rfl ?_
    refine z_e1 (pc1 := 570) (L1 := [some (.ref 0), some (.ref 4), some (.ref 19), some (.int 0)]) (S1 := [.int 2, .int 0, .ref 0, .int x1, .ref 19, .int (-1)]) zd0_569 rfl rfl rfl ?_
    refine z_e1 (pc1 := 571) (L1 := [some (.ref 0), some (.ref 4), some (.ref 19), some (.int 0)]) (S1 := [.int 2, .ref 0, .int x1, .ref 19, .int (-1)]) zd0_570 rfl rfl rfl ?_
    refine z_eial (y := x2) zd0_571 h0 (by decide) g2 ?_
    refine z_e1 (pc1 := 573) (L1 := [some (.ref 0), some (.ref 4), some (.ref 19), some (.int 0)]) (S1 := [.ref 0, .int x2, .int x1, .ref 19, .int (-1)]) zd0_572 rfl rfl rfl ?_
    refine z_e1 (pc1 := 574) (L1 := [some (.ref 0), some (.ref 4), some (.ref 19), some (.int 0)]) (S1 := [.int 0, .ref 0, .int x2, .int x1, .ref 19, .int (-1)]) zd0_573 rfl rfl rfl ?_
    refine z_e1 (pc1 := 575) (L1 := [some (.ref 0), some (.ref 4), some (.ref 19), some (.int 0)]) (S1 := [.int 3, .int 0, .ref 0, .int x2, .int x1, .ref 19, .int (-1)]) zd0_574 rfl rfl rfl ?_
    refine z_e1 (pc1 := 576) (L1 := [some (.ref 0), some (.ref 4), some (.ref 19), some (.int 0)]) (S1 := [.int 3, .ref 0, .int x2, .int x1, .ref 19, .int (-1)]) zd0_575 rfl rfl rfl ?_
    refine z_eial (y := x3) zd0_576 h0 (by decide) g3 ?_
    refine z_e1 (pc1 := 578) (L1 := [some (.ref 0), some (.ref 4), some (.ref 19), some (.int 0)]) (S1 := [.ref 0, .int x3, .int x2, .int x1, .ref 19, .int (-1)]) zd0_577 rfl rfl rfl ?_
    refine z_e1 (pc1 := 579) (L1 := [some (.ref 0), some (.ref 4), some (.ref 19), some (.int 0)]) (S1 := [.int 0, .ref 0, .int x3, .int x2, .int x1, .ref 19, .int (-1)]) zd0_578 rfl rfl rfl ?_
    refine z_e1 (pc1 := 580) (L1 := [some (.ref 0), some (.ref 4), some (.ref 19), some (.int 0)]) (S1 := [.int 4, .int 0, .ref 0, .int x3, .int x2, .int x1, .ref 19, .int (-1)]) zd0_579 rfl rfl rfl ?_
    refine z_e1 (pc1 := 581) (L1 := [some (.ref 0), some (.ref 4), some (.ref 19), some (.int 0)]) (S1 := [.int 4, .ref 0, .int x3, .int x2, .int x1, .ref 19, .int (-1)]) zd0_580 rfl rfl rfl ?_
    refine z_eial (y := x4) zd0_581 h0 (by decide) g4 ?_
    refine z_ecV (vs := [.ref 19, .int x1, .int x2, .int x3, .int x4]) (r := [.int (-1)]) (L2 := [some (.ref 19), some (.int x1), some (.int x2), some (.int x3), some (.int x4)]) zd0_582 zcV0_56 (Or.inl rfl) rfl b19 (by decide) rfl rfl rfl (Nat.le_of_ble_eq_true rfl) zm222 (Nat.le_of_ble_eq_true rfl) rfl ?_
    refine z_e1 (pc1 := 1) (L1 := [some (.ref 19), some (.int x1), some (.int x2), some (.int x3), some (.int x4)]) (S1 := [.ref 19]) zd222_0 rfl rfl rfl ?_
    refine z_e1 (pc1 := 2) (L1 := [some (.ref 19), some (.int x1), some (.int x2), some (.int x3), some (.int x4)]) (S1 := [.int x1, .ref 19]) zd222_1 rfl rfl rfl ?_
    refine z_e1 (pc1 := 3) (L1 := [some (.ref 19), some (.int x1), some (.int x2), some (.int x3), some (.int x4)]) (S1 := [.int x2, .int x1, .ref 19]) zd222_2 rfl rfl rfl ?_
    refine z_ecV (vs := [.ref 19, .int x1, .int x2]) (r := []) (L2 := [some (.ref 19), some (.int x1), some (.int x2)]) zd222_3 zcV222_234 (Or.inl rfl) rfl b19 (by decide) rfl rfl rfl (Nat.le_of_ble_eq_true rfl) zm223 (Nat.le_of_ble_eq_true rfl) rfl ?_
    refine z_e1 (pc1 := 1) (L1 := [some (.ref 19), some (.int x1), some (.int x2)]) (S1 := [.ref 19]) zd223_0 rfl rfl rfl ?_
    refine z_e1 (pc1 := 2) (L1 := [some (.ref 19), some (.int x1), some (.int x2)]) (S1 := [.int x1, .ref 19]) zd223_1 rfl rfl rfl ?_
    refine z_ecV (vs := [.ref 19, .int x1]) (r := []) (L2 := [some (.ref 19), some (.int x1)]) zd223_2 zcV223_209 (Or.inl rfl) rfl b19 (by decide) rfl rfl rfl (Nat.le_of_ble_eq_true rfl) zm209 (Nat.le_of_ble_eq_true rfl) rfl ?_
    refine z_e1 (pc1 := 1) (L1 := [some (.ref 19), some (.int x1)]) (S1 := [.int x1]) zd209_0 rfl rfl rfl ?_
    refine z_ez (t := 16) (t2 := 16) zd209_1 rfl (z_b_ltx1 (k := 0) (by decide) (show x1.toInt < 0 from by omega)) ?_
    refine z_e1 (pc1 := 17) (L1 := [some (.ref 19), some (.int x1)]) (S1 := [.int 0]) zd209_16 rfl rfl rfl ?_
    refine z_erz zd209_17 zr209 (by decide) ?_
    show z_ev _ 223 5 [some (.ref 19), some (.int x1), some (.int x2)] [.int 0] _ _
    refine z_ez (t := 26) (t2 := 26) zd223_5 rfl rfl ?_
    refine z_e1 (pc1 := 27) (L1 := [some (.ref 19), some (.int x1), some (.int x2)]) (S1 := [.int 0]) zd223_26 rfl rfl rfl ?_
    refine z_erz zd223_27 zr223 (by decide) ?_
    show z_ev _ 222 6 [some (.ref 19), some (.int x1), some (.int x2), some (.int x3), some (.int x4)] [.int 0] _ _
    refine z_ez (t := 20) (t2 := 20) zd222_6 rfl rfl ?_
    refine z_e1 (pc1 := 21) (L1 := [some (.ref 19), some (.int x1), some (.int x2), some (.int x3), some (.int x4)]) (S1 := [.int (-1)]) zd222_20 rfl rfl rfl ?_
    refine z_eri zd222_21 zr222 ?_
    show z_ev _ 0 585 [some (.ref 0), some (.ref 4), some (.ref 19), some (.int 0)] [.int (-1), .int (-1)] _ _
    refine z_ej (t := 1775) (t2 := 1775) zd0_585 rfl rfl ?_
    refine z_e1 (pc1 := 1778) (L1 := [some (.ref 0), some (.ref 4), some (.ref 19), some (.int 6)]) (S1 := []) zd0_1775 rfl rfl rfl ?_
    refine z_e1 (pc1 := 18) (L1 := [some (.ref 0), some (.ref 4), some (.ref 19), some (.int 6)]) (S1 := []) zd0_1778 rfl rfl rfl ?_
    refine z_e1 (pc1 := 19) (L1 := [some (.ref 0), some (.ref 4), some (.ref 19), some (.int 6)]) (S1 := [.int 6]) zd0_18 rfl rfl rfl ?_
    refine z_e1 (pc1 := 20) (L1 := [some (.ref 0), some (.ref 4), some (.ref 19), some (.int 6)]) (S1 := [.ref 0, .int 6]) zd0_19 rfl rfl rfl ?_
    refine z_ealn (y := 6) zd0_20 h0 rfl ?_
    refine z_e1 (pc1 := 23) (L1 := [some (.ref 0), some (.ref 4), some (.ref 19), some (.int 6)]) (S1 := [.int 6, .int 6, .int 6]) zd0_21 rfl rfl rfl ?_
    refine z_e1 (pc1 := 24) (L1 := [some (.ref 0), some (.ref 4), some (.ref 19), some (.int 6)]) (S1 := [.int 0, .int 6]) zd0_23 rfl rfl rfl ?_
    refine z_ej (t := 1781) (t2 := 1781) zd0_24 rfl rfl ?_
    refine z_e1 (pc1 := 1782) (L1 := [some (.ref 0), some (.ref 4), some (.ref 19), some (.int 6)]) (S1 := [.int 1]) zd0_1781 rfl rfl rfl ?_
    refine z_erz zd0_1782 zr0 (by decide) ?_
    exact z_K1i hN hS (by decide) (by decide)
  · refine z_ez (t := 12) (t2 := 4) zd35_1 rfl (z_b_ltx0 (k := 0) (by decide) e1) ?_
    refine z_e1 (pc1 := 5) (L1 := [some (.ref 4), some (.int x1)]) (S1 := [.int x1]) zd35_4 rfl rfl rfl ?_
    refine z_e1 (pc1 := 6) (L1 := [some (.ref 4), some (.int x1)]) (S1 := [.ref 4, .int x1]) zd35_5 rfl rfl rfl ?_
    refine z_egf (fs := [.ref 5, .ref 10, .ref 11, .int 0, .ref 12, .int 0, .ref 13, .ref 14, .ref 15, .ref 16, .ref 17, .ref 18, .null]) (v := .int 0) zd35_6 zf35_59 b4 (by decide) (by decide) rfl ?_
    refine z_ej (t := 16) (t2 := 12) zd35_9 rfl (z_b_ltx0 (k := 0) (by decide) (show ¬ x1.toInt < 0 from by omega)) ?_
    refine z_e1 (pc1 := 13) (L1 := [some (.ref 4), some (.int x1)]) (S1 := [.null]) zd35_12 rfl rfl rfl ?_
    refine z_e1 (pc1 := 22) (L1 := [some (.ref 4), some (.int x1)]) (S1 := [.null]) zd35_13 rfl rfl rfl ?_
    refine z_ern zd35_22 zr35 ?_
    show z_ev _ 55 5 [some (.ref 4), some (.int x1), some (.int x2), some (.int x3), some (.int x4), none] [.null] _ _
    refine z_e1 (pc1 := 7) (L1 := [some (.ref 4), some (.int x1), some (.int x2), some (.int x3), some (.int x4), some (.null)]) (S1 := []) zd55_5 rfl rfl rfl ?_
    refine z_e1 (pc1 := 9) (L1 := [some (.ref 4), some (.int x1), some (.int x2), some (.int x3), some (.int x4), some (.null)]) (S1 := [.null]) zd55_7 rfl rfl rfl ?_
    refine z_e1 (pc1 := 35) (L1 := [some (.ref 4), some (.int x1), some (.int x2), some (.int x3), some (.int x4), some (.null)]) (S1 := []) zd55_9 rfl rfl rfl ?_
    refine z_e1 (pc1 := 36) (L1 := [some (.ref 4), some (.int x1), some (.int x2), some (.int x3), some (.int x4), some (.null)]) (S1 := [.int (-1)]) zd55_35 rfl rfl rfl ?_
    refine z_eri zd55_36 zr55 ?_
    show z_ev _ 0 561 [some (.ref 0), some (.ref 4), some (.ref 19), some (.int 0)] [.int (-1)] _ _
    refine z_e1 (pc1 := 562) (L1 := [some (.ref 0), some (.ref 4), some (.ref 19), some (.int 0)]) (S1 := [.ref 19, .int (-1)]) zd0_561 rfl rfl rfl ?_
    refine z_e1 (pc1 := 563) (L1 := [some (.ref 0), some (.ref 4), some (.ref 19), some (.int 0)]) (S1 := [.ref 0, .ref 19, .int (-1)]) zd0_562 rfl rfl rfl ?_
    refine z_e1 (pc1 := 564) (L1 := [some (.ref 0), some (.ref 4), some (.ref 19), some (.int 0)]) (S1 := [.int 0, .ref 0, .ref 19, .int (-1)]) zd0_563 rfl rfl rfl ?_
    refine z_e1 (pc1 := 565) (L1 := [some (.ref 0), some (.ref 4), some (.ref 19), some (.int 0)]) (S1 := [.int 1, .int 0, .ref 0, .ref 19, .int (-1)]) zd0_564 rfl rfl rfl ?_
    refine z_e1 (pc1 := 566) (L1 := [some (.ref 0), some (.ref 4), some (.ref 19), some (.int 0)]) (S1 := [.int 1, .ref 0, .ref 19, .int (-1)]) zd0_565 rfl rfl rfl ?_
    refine z_eial (y := x1) zd0_566 h0 (by decide) g1 ?_
    refine z_e1 (pc1 := 568) (L1 := [some (.ref 0), some (.ref 4), some (.ref 19), some (.int 0)]) (S1 := [.ref 0, .int x1, .ref 19, .int (-1)]) zd0_567 rfl rfl rfl ?_
    refine z_e1 (pc1 := 569) (L1 := [some (.ref 0), some (.ref 4), some (.ref 19), some (.int 0)]) (S1 := [.int 0, .ref 0, .int x1, .ref 19, .int (-1)]) zd0_568 rfl rfl rfl ?_
    refine z_e1 (pc1 := 570) (L1 := [some (.ref 0), some (.ref 4), some (.ref 19), some (.int 0)]) (S1 := [.int 2, .int 0, .ref 0, .int x1, .ref 19, .int (-1)]) zd0_569 rfl rfl rfl ?_
    refine z_e1 (pc1 := 571) (L1 := [some (.ref 0), some (.ref 4), some (.ref 19), some (.int 0)]) (S1 := [.int 2, .ref 0, .int x1, .ref 19, .int (-1)]) zd0_570 rfl rfl rfl ?_
    refine z_eial (y := x2) zd0_571 h0 (by decide) g2 ?_
    refine z_e1 (pc1 := 573) (L1 := [some (.ref 0), some (.ref 4), some (.ref 19), some (.int 0)]) (S1 := [.ref 0, .int x2, .int x1, .ref 19, .int (-1)]) zd0_572 rfl rfl rfl ?_
    refine z_e1 (pc1 := 574) (L1 := [some (.ref 0), some (.ref 4), some (.ref 19), some (.int 0)]) (S1 := [.int 0, .ref 0, .int x2, .int x1, .ref 19, .int (-1)]) zd0_573 rfl rfl rfl ?_
    refine z_e1 (pc1 := 575) (L1 := [some (.ref 0), some (.ref 4), some (.ref 19), some (.int 0)]) (S1 := [.int 3, .int 0, .ref 0, .int x2, .int x1, .ref 19, .int (-1)]) zd0_574 rfl rfl rfl ?_
    refine z_e1 (pc1 := 576) (L1 := [some (.ref 0), some (.ref 4), some (.ref 19), some (.int 0)]) (S1 := [.int 3, .ref 0, .int x2, .int x1, .ref 19, .int (-1)]) zd0_575 rfl rfl rfl ?_
    refine z_eial (y := x3) zd0_576 h0 (by decide) g3 ?_
    refine z_e1 (pc1 := 578) (L1 := [some (.ref 0), some (.ref 4), some (.ref 19), some (.int 0)]) (S1 := [.ref 0, .int x3, .int x2, .int x1, .ref 19, .int (-1)]) zd0_577 rfl rfl rfl ?_
    refine z_e1 (pc1 := 579) (L1 := [some (.ref 0), some (.ref 4), some (.ref 19), some (.int 0)]) (S1 := [.int 0, .ref 0, .int x3, .int x2, .int x1, .ref 19, .int (-1)]) zd0_578 rfl rfl rfl ?_
    refine z_e1 (pc1 := 580) (L1 := [some (.ref 0), some (.ref 4), some (.ref 19), some (.int 0)]) (S1 := [.int 4, .int 0, .ref 0, .int x3, .int x2, .int x1, .ref 19, .int (-1)]) zd0_579 rfl rfl rfl ?_
    refine z_e1 (pc1 := 581) (L1 := [some (.ref 0), some (.ref 4), some (.ref 19), some (.int 0)]) (S1 := [.int 4, .ref 0, .int x3, .int x2, .int x1, .ref 19, .int (-1)]) zd0_580 rfl rfl rfl ?_
    refine z_eial (y := x4) zd0_581 h0 (by decide) g4 ?_
    refine z_ecV (vs := [.ref 19, .int x1, .int x2, .int x3, .int x4]) (r := [.int (-1)]) (L2 := [some (.ref 19), some (.int x1), some (.int x2), some (.int x3), some (.int x4)]) zd0_582 zcV0_56 (Or.inl rfl) rfl b19 (by decide) rfl rfl rfl (Nat.le_of_ble_eq_true rfl) zm222 (Nat.le_of_ble_eq_true rfl) rfl ?_
    refine z_e1 (pc1 := 1) (L1 := [some (.ref 19), some (.int x1), some (.int x2), some (.int x3), some (.int x4)]) (S1 := [.ref 19]) zd222_0 rfl rfl rfl ?_
    refine z_e1 (pc1 := 2) (L1 := [some (.ref 19), some (.int x1), some (.int x2), some (.int x3), some (.int x4)]) (S1 := [.int x1, .ref 19]) zd222_1 rfl rfl rfl ?_
    refine z_e1 (pc1 := 3) (L1 := [some (.ref 19), some (.int x1), some (.int x2), some (.int x3), some (.int x4)]) (S1 := [.int x2, .int x1, .ref 19]) zd222_2 rfl rfl rfl ?_
    refine z_ecV (vs := [.ref 19, .int x1, .int x2]) (r := []) (L2 := [some (.ref 19), some (.int x1), some (.int x2)]) zd222_3 zcV222_234 (Or.inl rfl) rfl b19 (by decide) rfl rfl rfl (Nat.le_of_ble_eq_true rfl) zm223 (Nat.le_of_ble_eq_true rfl) rfl ?_
    refine z_e1 (pc1 := 1) (L1 := [some (.ref 19), some (.int x1), some (.int x2)]) (S1 := [.ref 19]) zd223_0 rfl rfl rfl ?_
    refine z_e1 (pc1 := 2) (L1 := [some (.ref 19), some (.int x1), some (.int x2)]) (S1 := [.int x1, .ref 19]) zd223_1 rfl rfl rfl ?_
    refine z_ecV (vs := [.ref 19, .int x1]) (r := []) (L2 := [some (.ref 19), some (.int x1)]) zd223_2 zcV223_209 (Or.inl rfl) rfl b19 (by decide) rfl rfl rfl (Nat.le_of_ble_eq_true rfl) zm209 (Nat.le_of_ble_eq_true rfl) rfl ?_
    refine z_e1 (pc1 := 1) (L1 := [some (.ref 19), some (.int x1)]) (S1 := [.int x1]) zd209_0 rfl rfl rfl ?_
    refine z_ez (t := 16) (t2 := 4) zd209_1 rfl (z_b_ltx0 (k := 0) (by decide) (show ¬ x1.toInt < 0 from by omega)) ?_
    refine z_e1 (pc1 := 5) (L1 := [some (.ref 19), some (.int x1)]) (S1 := [.int x1]) zd209_4 rfl rfl rfl ?_
    refine z_e1 (pc1 := 6) (L1 := [some (.ref 19), some (.int x1)]) (S1 := [.ref 19, .int x1]) zd209_5 rfl rfl rfl ?_
    refine z_egf (fs := [.ref 20, .int 0, .ref 21, .ref 22, .ref 23, .ref 24, .ref 25, .ref 26, .ref 27, .ref 28, .ref 29, .ref 30, .ref 31, .int 0, .ref 32, .ref 33, .ref 34, .ref 35, .ref 36, .ref 37, .ref 38, .int 0, .int 0, .int 0, .int 0, .int 0, .int 0, .int 0, .int 0, .int 0, .int 0, .ref 39, .ref 40, .ref 41, .int 0, .int 0, .ref 42, .ref 43, .ref 44, .ref 45, .ref 46, .int 0, .ref 47, .int 0, .int 0, .int 0, .ref 48, .int 0, .int 0, .ref 49, .ref 50, .ref 51, .ref 52]) (v := .int 0) zd209_6 zf209_110 b19 (by decide) (by decide) rfl ?_
    refine z_ej (t := 16) (t2 := 16) zd209_9 rfl (z_b_gex0 (k := 0) (by decide) (show ¬ x1.toInt < 0 from by omega)) ?_
    refine z_e1 (pc1 := 17) (L1 := [some (.ref 19), some (.int x1)]) (S1 := [.int 0]) zd209_16 rfl rfl rfl ?_
    refine z_erz zd209_17 zr209 (by decide) ?_
    show z_ev _ 223 5 [some (.ref 19), some (.int x1), some (.int x2)] [.int 0] _ _
    refine z_ez (t := 26) (t2 := 26) zd223_5 rfl rfl ?_
    refine z_e1 (pc1 := 27) (L1 := [some (.ref 19), some (.int x1), some (.int x2)]) (S1 := [.int 0]) zd223_26 rfl rfl rfl ?_
    refine z_erz zd223_27 zr223 (by decide) ?_
    show z_ev _ 222 6 [some (.ref 19), some (.int x1), some (.int x2), some (.int x3), some (.int x4)] [.int 0] _ _
    refine z_ez (t := 20) (t2 := 20) zd222_6 rfl rfl ?_
    refine z_e1 (pc1 := 21) (L1 := [some (.ref 19), some (.int x1), some (.int x2), some (.int x3), some (.int x4)]) (S1 := [.int (-1)]) zd222_20 rfl rfl rfl ?_
    refine z_eri zd222_21 zr222 ?_
    show z_ev _ 0 585 [some (.ref 0), some (.ref 4), some (.ref 19), some (.int 0)] [.int (-1), .int (-1)] _ _
    refine z_ej (t := 1775) (t2 := 1775) zd0_585 rfl rfl ?_
    refine z_e1 (pc1 := 1778) (L1 := [some (.ref 0), some (.ref 4), some (.ref 19), some (.int 6)]) (S1 := []) zd0_1775 rfl rfl rfl ?_
    refine z_e1 (pc1 := 18) (L1 := [some (.ref 0), some (.ref 4), some (.ref 19), some (.int 6)]) (S1 := []) zd0_1778 rfl rfl rfl ?_
    refine z_e1 (pc1 := 19) (L1 := [some (.ref 0), some (.ref 4), some (.ref 19), some (.int 6)]) (S1 := [.int 6]) zd0_18 rfl rfl rfl ?_
    refine z_e1 (pc1 := 20) (L1 := [some (.ref 0), some (.ref 4), some (.ref 19), some (.int 6)]) (S1 := [.ref 0, .int 6]) zd0_19 rfl rfl rfl ?_
    refine z_ealn (y := 6) zd0_20 h0 rfl ?_
    refine z_e1 (pc1 := 23) (L1 := [some (.ref 0), some (.ref 4), some (.ref 19), some (.int 6)]) (S1 := [.int 6, .int 6, .int 6]) zd0_21 rfl rfl rfl ?_
    refine z_e1 (pc1 := 24) (L1 := [some (.ref 0), some (.ref 4), some (.ref 19), some (.int 6)]) (S1 := [.int 0, .int 6]) zd0_23 rfl rfl rfl ?_
    refine z_ej (t := 1781) (t2 := 1781) zd0_24 rfl rfl ?_
    refine z_e1 (pc1 := 1782) (L1 := [some (.ref 0), some (.ref 4), some (.ref 19), some (.int 6)]) (S1 := [.int 1]) zd0_1781 rfl rfl rfl ?_
    refine z_erz zd0_1782 zr0 (by decide) ?_
    exact z_K1i hN hS (by decide) (by decide)
theorem z_C10 {M : zH} {xs : Nat → Int32} {x1 x2 x3 x4 x5 : Int32} (h0 : M[0]? = some (.inl (0, 6, .inl xs))) (hN : M.length = 53) (hS : z_sz M ≤ 50000) (hB : z_fr M 4 53) (g1 : xs 1 = x1) (g2 : xs 2 = x2) (g3 : xs 3 = x3) (g4 : xs 4 = x4) (g5 : xs 5 = x5) : z_ev 2047 0 590 [some (.ref 0), some (.ref 4), some (.ref 19), some (.int 0)] [] M z_K1 := by
  have b4 := z_qO (hB 4 (by decide) (by decide))
  have b19 := z_qO (hB 19 (by decide) (by decide))
  refine z_e1 (pc1 := 591) (L1 := [some (.ref 0), some (.ref 4), some (.ref 19), some (.int 0)]) (S1 := [.ref 4]) zd0_590 rfl rfl rfl ?_
  refine z_e1 (pc1 := 592) (L1 := [some (.ref 0), some (.ref 4), some (.ref 19), some (.int 0)]) (S1 := [.ref 0, .ref 4]) zd0_591 rfl rfl rfl ?_
  refine z_e1 (pc1 := 593) (L1 := [some (.ref 0), some (.ref 4), some (.ref 19), some (.int 0)]) (S1 := [.int 0, .ref 0, .ref 4]) zd0_592 rfl rfl rfl ?_
  refine z_e1 (pc1 := 594) (L1 := [some (.ref 0), some (.ref 4), some (.ref 19), some (.int 0)]) (S1 := [.int 1, .int 0, .ref 0, .ref 4]) zd0_593 rfl rfl rfl ?_
  refine z_e1 (pc1 := 595) (L1 := [some (.ref 0), some (.ref 4), some (.ref 19), some (.int 0)]) (S1 := [.int 1, .ref 0, .ref 4]) zd0_594 rfl rfl rfl ?_
  refine z_eial (y := x1) zd0_595 h0 (by decide) g1 ?_
  refine z_e1 (pc1 := 597) (L1 := [some (.ref 0), some (.ref 4), some (.ref 19), some (.int 0)]) (S1 := [.ref 0, .int x1, .ref 4]) zd0_596 rfl rfl rfl ?_
  refine z_e1 (pc1 := 598) (L1 := [some (.ref 0), some (.ref 4), some (.ref 19), some (.int 0)]) (S1 := [.int 0, .ref 0, .int x1, .ref 4]) zd0_597 rfl rfl rfl ?_
  refine z_e1 (pc1 := 599) (L1 := [some (.ref 0), some (.ref 4), some (.ref 19), some (.int 0)]) (S1 := [.int 2, .int 0, .ref 0, .int x1, .ref 4]) zd0_598 rfl rfl rfl ?_
  refine z_e1 (pc1 := 600) (L1 := [some (.ref 0), some (.ref 4), some (.ref 19), some (.int 0)]) (S1 := [.int 2, .ref 0, .int x1, .ref 4]) zd0_599 rfl rfl rfl ?_
  refine z_eial (y := x2) zd0_600 h0 (by decide) g2 ?_
  refine z_e1 (pc1 := 602) (L1 := [some (.ref 0), some (.ref 4), some (.ref 19), some (.int 0)]) (S1 := [.ref 0, .int x2, .int x1, .ref 4]) zd0_601 rfl rfl rfl ?_
  refine z_e1 (pc1 := 603) (L1 := [some (.ref 0), some (.ref 4), some (.ref 19), some (.int 0)]) (S1 := [.int 0, .ref 0, .int x2, .int x1, .ref 4]) zd0_602 rfl rfl rfl ?_
  refine z_e1 (pc1 := 604) (L1 := [some (.ref 0), some (.ref 4), some (.ref 19), some (.int 0)]) (S1 := [.int 3, .int 0, .ref 0, .int x2, .int x1, .ref 4]) zd0_603 rfl rfl rfl ?_
  refine z_e1 (pc1 := 605) (L1 := [some (.ref 0), some (.ref 4), some (.ref 19), some (.int 0)]) (S1 := [.int 3, .ref 0, .int x2, .int x1, .ref 4]) zd0_604 rfl rfl rfl ?_
  refine z_eial (y := x3) zd0_605 h0 (by decide) g3 ?_
  refine z_e1 (pc1 := 607) (L1 := [some (.ref 0), some (.ref 4), some (.ref 19), some (.int 0)]) (S1 := [.ref 0, .int x3, .int x2, .int x1, .ref 4]) zd0_606 rfl rfl rfl ?_
  refine z_e1 (pc1 := 608) (L1 := [some (.ref 0), some (.ref 4), some (.ref 19), some (.int 0)]) (S1 := [.int 0, .ref 0, .int x3, .int x2, .int x1, .ref 4]) zd0_607 rfl rfl rfl ?_
  refine z_e1 (pc1 := 609) (L1 := [some (.ref 0), some (.ref 4), some (.ref 19), some (.int 0)]) (S1 := [.int 4, .int 0, .ref 0, .int x3, .int x2, .int x1, .ref 4]) zd0_608 rfl rfl rfl ?_
  refine z_e1 (pc1 := 610) (L1 := [some (.ref 0), some (.ref 4), some (.ref 19), some (.int 0)]) (S1 := [.int 4, .ref 0, .int x3, .int x2, .int x1, .ref 4]) zd0_609 rfl rfl rfl ?_
  refine z_eial (y := x4) zd0_610 h0 (by decide) g4 ?_
  refine z_ecV (vs := [.ref 4, .int x1, .int x2, .int x3, .int x4]) (r := []) (L2 := [some (.ref 4), some (.int x1), some (.int x2), some (.int x3), some (.int x4), none, none]) zd0_611 zcV0_57 (Or.inl rfl) rfl b4 (by decide) rfl rfl rfl (Nat.le_of_ble_eq_true rfl) zm57 (Nat.le_of_ble_eq_true rfl) rfl ?_
  refine z_e1 (pc1 := 1) (L1 := [some (.ref 4), some (.int x1), some (.int x2), some (.int x3), some (.int x4), none, none]) (S1 := [.ref 4]) zd57_0 rfl rfl rfl ?_
  refine z_e1 (pc1 := 2) (L1 := [some (.ref 4), some (.int x1), some (.int x2), some (.int x3), some (.int x4), none, none]) (S1 := [.int x1, .ref 4]) zd57_1 rfl rfl rfl ?_
  refine z_ecV (vs := [.ref 4, .int x1]) (r := []) (L2 := [some (.ref 4), some (.int x1)]) zd57_2 zcV57_85 (Or.inl rfl) rfl b4 (by decide) rfl rfl rfl (Nat.le_of_ble_eq_true rfl) zm35 (Nat.le_of_ble_eq_true rfl) rfl ?_
  refine z_e1 (pc1 := 1) (L1 := [some (.ref 4), some (.int x1)]) (S1 := [.int x1]) zd35_0 rfl rfl rfl ?_
  by_cases e1 : x1.toInt < 0
  · refine z_ez (t := 12) (t2 := 12) zd35_1 rfl (z_b_ltx1 (k := 0) (by decide) e1) ?_
    refine z_e1 (pc1 := 13) (L1 := [some (.ref 4), some (.int x1)]) (S1 := [.null]) zd35_12 rfl rfl rfl ?_
    refine z_e1 (pc1 := 22) (L1 := [some (.ref 4), some (.int x1)]) (S1 := [.null]) zd35_13 rfl rfl rfl ?_
    refine z_ern zd35_22 zr35 ?_
    show z_ev _ 57 5 [some (.ref 4), some (.int x1), some (.int x2), some (.int x3), some (.int x4), none, none] [.null] _ _
    refine z_e1 (pc1 := 7) (L1 := [some (.ref 4), some (.int x1), some (.int x2), some (.int x3), some (.int x4), some (.null), none]) (S1 := []) zd57_5 rfl rfl rfl ?_
    refine z_e1 (pc1 := 9) (L1 := [some (.ref 4), some (.int x1), some (.int x2), some (.int x3), some (.int x4), some (.null), none]) (S1 := [.null]) zd57_7 rfl rfl rfl ?_
    refine z_e1 (pc1 := 28) (L1 := [some (.ref 4), some (.int x1), some (.int x2), some (.int x3), some (.int x4), some (.null), none]) (S1 := []) zd57_9 rfl rfl rfl ?_
    refine z_e1 (pc1 := 29) (L1 := [some (.ref 4), some (.int x1), some (.int x2), some (.int x3), some (.int x4), some (.null), none]) (S1 := [.int (-1)]) zd57_28 rfl rfl rfl ?_
    refine z_eri zd57_29 zr57 ?_
    show z_ev _ 0 614 [some (.ref 0), some (.ref 4), some (.ref 19), some (.int 0)] [.int (-1)] _ _
    refine z_e1 (pc1 := 615) (L1 := [some (.ref 0), some (.ref 4), some (.ref 19), some (.int 0)]) (S1 := [.ref 19, .int (-1)]) zd0_614 rfl rfl rfl ?_
    refine z_e1 (pc1 := 616) (L1 := [some (.ref 0), some (.ref 4), some (.ref 19), some (.int 0)]) (S1 := [.ref 0, .ref 19, .int (-1)]) zd0_615 rfl rfl rfl ?_
    refine z_e1 (pc1 := 617) (L1 := [some (.ref 0), some (.ref 4), some (.ref 19), some (.int 0)]) (S1 := [.int 0, .ref 0, .ref 19, .int (-1)]) zd0_616 rfl rfl rfl ?_
    refine z_e1 (pc1 := 618) (L1 := [some (.ref 0), some (.ref 4), some (.ref 19), some (.int 0)]) (S1 := [.int 1, .int 0, .ref 0, .ref 19, .int (-1)]) zd0_617 rfl rfl rfl ?_
    refine z_e1 (pc1 := 619) (L1 := [some (.ref 0), some (.ref 4), some (.ref 19), some (.int 0)]) (S1 := [.int 1, .ref 0, .ref 19, .int (-1)]) zd0_618 rfl rfl rfl ?_
    refine z_eial (y := x1) zd0_619 h0 (by decide) g1 ?_
    refine z_e1 (pc1 := 621) (L1 := [some (.ref 0), some (.ref 4), some (.ref 19), some (.int 0)]) (S1 := [.ref 0, .int x1, .ref 19, .int (-1)]) zd0_620 rfl rfl rfl ?_
    refine z_e1 (pc1 := 622) (L1 := [some (.ref 0), some (.ref 4), some (.ref 19), some (.int 0)]) (S1 := [.int 0, .ref 0, .int x1, .ref 19, .int (-1)]) zd0_621 rfl rfl rfl ?_
    refine z_e1 (pc1 := 623) (L1 := [some (.ref 0), some (.ref 4), some (.ref 19), some (.int 0)]) (S1 := [.int 2, .int 0, .ref 0, .int x1, .ref 19, .int (-1)]) zd0_622 rfl rfl rfl ?_
    refine z_e1 (pc1 := 624) (L1 := [some (.ref 0), some (.ref 4), some (.ref 19), some (.int 0)]) (S1 := [.int 2, .ref 0, .int x1, .ref 19, .int (-1)]) zd0_623 rfl rfl rfl ?_
    refine z_eial (y := x2) zd0_624 h0 (by decide) g2 ?_
    refine z_e1 (pc1 := 626) (L1 := [some (.ref 0), some (.ref 4), some (.ref 19), some (.int 0)]) (S1 := [.ref 0, .int x2, .int x1, .ref 19, .int (-1)]) zd0_625 rfl rfl rfl ?_
    refine z_e1 (pc1 := 627) (L1 := [some (.ref 0), some (.ref 4), some (.ref 19), some (.int 0)]) (S1 := [.int 0, .ref 0, .int x2, .int x1, .ref 19, .int (-1)]) zd0_626 rfl rfl rfl ?_
    refine z_e1 (pc1 := 628) (L1 := [some (.ref 0), some (.ref 4), some (.ref 19), some (.int 0)]) (S1 := [.int 3, .int 0, .ref 0, .int x2, .int x1, .ref 19, .int (-1)]) zd0_627 rfl rfl rfl ?_
    refine z_e1 (pc1 := 629) (L1 := [some (.ref 0), some (.ref 4), some (.ref 19), some (.int 0)]) (S1 := [.int 3, .ref 0, .int x2, .int x1, .ref 19, .int (-1)]) zd0_628 rfl rfl rfl ?_
    refine z_eial (y := x3) zd0_629 h0 (by decide) g3 ?_
    refine z_e1 (pc1 := 631) (L1 := [some (.ref 0), some (.ref 4), some (.ref 19), some (.int 0)]) (S1 := [.ref 0, .int x3, .int x2, .int x1, .ref 19, .int (-1)]) zd0_630 rfl rfl rfl ?_
    refine z_e1 (pc1 := 632) (L1 := [some (.ref 0), some (.ref 4), some (.ref 19), some (.int 0)]) (S1 := [.int 0, .ref 0, .int x3, .int x2, .int x1, .ref 19, .int (-1)]) zd0_631 rfl rfl rfl ?_
    refine z_e1 (pc1 := 633) (L1 := [some (.ref 0), some (.ref 4), some (.ref 19), some (.int 0)]) (S1 := [.int 4, .int 0, .ref 0, .int x3, .int x2, .int x1, .ref 19, .int (-1)]) zd0_632 rfl rfl rfl ?_
    refine z_e1 (pc1 := 634) (L1 := [some (.ref 0), some (.ref 4), some (.ref 19), some (.int 0)]) (S1 := [.int 4, .ref 0, .int x3, .int x2, .int x1, .ref 19, .int (-1)]) zd0_633 rfl rfl rfl ?_
    refine z_eial (y := x4) zd0_634 h0 (by decide) g4 ?_
    refine z_ecV (vs := [.ref 19, .int x1, .int x2, .int x3, .int x4]) (r := [.int (-1)]) (L2 := [some (.ref 19), some (.int x1), some (.int x2), some (.int x3), some (.int x4), none, none, none, none, none, none, none]) zd0_635 zcV0_60 (Or.inl rfl) rfl b19 (by decide) rfl rfl rfl (Nat.le_of_ble_eq_true rfl) zm224 (Nat.le_of_ble_eq_true rfl) rfl ?_
    refine z_e1 (pc1 := 1) (L1 := [some (.ref 19), some (.int x1), some (.int x2), some (.int x3), some (.int x4), none, none, none, none, none, none, none]) (S1 := [.ref 19]) zd224_0 rfl rfl rfl ?_
    refine z_e1 (pc1 := 2) (L1 := [some (.ref 19), some (.int x1), some (.int x2), some (.int x3), some (.int x4), none, none, none, none, none, none, none]) (S1 := [.int x1, .ref 19]) zd224_1 rfl rfl rfl ?_
    refine z_e1 (pc1 := 3) (L1 := [some (.ref 19), some (.int x1), some (.int x2), some (.int x3), some (.int x4), none, none, none, none, none, none, none]) (S1 := [.int x2, .int x1, .ref 19]) zd224_2 rfl rfl rfl ?_
    refine z_ecV (vs := [.ref 19, .int x1, .int x2]) (r := []) (L2 := [some (.ref 19), some (.int x1), some (.int x2)]) zd224_3 zcV224_234 (Or.inl rfl) rfl b19 (by decide) rfl rfl rfl (Nat.le_of_ble_eq_true rfl) zm223 (Nat.le_of_ble_eq_true rfl) rfl ?_
    refine z_e1 (pc1 := 1) (L1 := [some (.ref 19), some (.int x1), some (.int x2)]) (S1 := [.ref 19]) zd223_0 rfl rfl rfl ?_
    refine z_e1 (pc1 := 2) (L1 := [some (.ref 19), some (.int x1), some (.int x2)]) (S1 := [.int x1, .ref 19]) zd223_1 rfl rfl rfl ?_
    refine z_ecV (vs := [.ref 19, .int x1]) (r := []) (L2 := [some (.ref 19), some (.int x1)]) zd223_2 zcV223_209 (Or.inl rfl) rfl b19 (by decide) rfl rfl rfl (Nat.le_of_ble_eq_true rfl) zm209 (Nat.le_of_ble_eq_true rfl) rfl ?_
    refine z_e1 (pc1 := 1) (L1 := [some (.ref 19), some (.int x1)]) (S1 := [.int x1]) zd209_0 rfl rfl rfl ?_
    refine z_ez (t := 16) (t2 := 16) zd209_1 rfl (z_b_ltx1 (k := 0) (by decide) (show x1.toInt < 0 from by omega)) ?_
    refine z_e1 (pc1 := 17) (L1 := [some (.ref 19), some (.int x1)]) (S1 := [.int 0]) zd209_16 rfl rfl rfl ?_
    refine z_erz zd209_17 zr209 (by decide) ?_
    show z_ev _ 223 5 [some (.ref 19), some (.int x1), some (.int x2)] [.int 0] _ _
    refine z_ez (t := 26) (t2 := 26) zd223_5 rfl rfl ?_
    refine z_e1 (pc1 := 27) (L1 := [some (.ref 19), some (.int x1), some (.int x2)]) (S1 := [.int 0]) zd223_26 rfl rfl rfl ?_
    refine z_erz zd223_27 zr223 (by decide) ?_
    show z_ev _ 224 6 [some (.ref 19), some (.int x1), some (.int x2), some (.int x3), some (.int x4), none, none, none, none, none, none, none] [.int 0] _ _
    refine z_ez (t := 16) (t2 := 16) zd224_6 rfl rfl ?_
    refine z_e1 (pc1 := 17) (L1 := [some (.ref 19), some (.int x1), some (.int x2), some (.int x3), some (.int x4), none, none, none, none, none, none, none]) (S1 := [.int (-1)]) zd224_16 rfl rfl rfl ?_
    refine z_eri zd224_17 zr224 ?_
    show z_ev _ 0 638 [some (.ref 0), some (.ref 4), some (.ref 19), some (.int 0)] [.int (-1), .int (-1)] _ _
    refine z_ej (t := 1775) (t2 := 1775) zd0_638 rfl rfl ?_
    refine z_e1 (pc1 := 1778) (L1 := [some (.ref 0), some (.ref 4), some (.ref 19), some (.int 6)]) (S1 := []) zd0_1775 rfl rfl rfl ?_
    refine z_e1 (pc1 := 18) (L1 := [some (.ref 0), some (.ref 4), some (.ref 19), some (.int 6)]) (S1 := []) zd0_1778 rfl rfl rfl ?_
    refine z_e1 (pc1 := 19) (L1 := [some (.ref 0), some (.ref 4), some (.ref 19), some (.int 6)]) (S1 := [.int 6]) zd0_18 rfl rfl rfl ?_
    refine z_e1 (pc1 := 20) (L1 := [some (.ref 0), some (.ref 4), some (.ref 19), some (.int 6)]) (S1 := [.ref 0, .int 6]) zd0_19 rfl rfl rfl ?_
    refine z_ealn (y := 6) zd0_20 h0 rfl ?_
    refine z_e1 (pc1 := 23) (L1 := [some (.ref 0), some (.ref 4), some (.ref 19), some (.int 6)]) (S1 := [.int 6, .int 6, .int 6]) zd0_21 rfl rfl rfl ?_
    refine z_e1 (pc1 := 24) (L1 := [some (.ref 0), some (.ref 4), some (.ref 19), some (.int 6)]) (S1 := [.int 0, .int 6]) zd0_23 rfl rfl rfl ?_
    refine z_ej (t := 1781) (t2 := 1781) zd0_24 rfl rfl ?_
    refine z_e1 (pc1 := 1782) (L1 := [some (.ref 0), some (.ref 4), some (.ref 19), some (.int 6)]) (S1 := [.int 1]) zd0_1781 rfl rfl rfl ?_
    refine z_erz zd0_1782 zr0 (by decide) ?_
    exact z_K1i hN hS (by decide) (by decide)
  · refine z_ez (t := 12) (t2 := 4) zd35_1 rfl (z_b_ltx0 (k := 0) (by decide) e1) ?_
    refine z_e1 (pc1 := 5) (L1 := [some (.ref 4), some (.int x1)]) (S1 := [.int x1]) zd35_4 rfl rfl rfl ?_
    refine z_e1 (pc1 := 6) (L1 := [some (.ref 4), some (.int x1)]) (S1 := [.ref 4, .int x1]) zd35_5 rfl rfl rfl ?_
    refine z_egf (fs := [.ref 5, .ref 10, .ref 11, .int 0, .ref 12, .int 0, .ref 13, .ref 14, .ref 15, .ref 16, .ref 17, .ref 18, .null]) (v := .int 0) zd35_6 zf35_59 b4 (by decide) (by decide) rfl ?_
    refine z_ej (t := 16) (t2 := 12) zd35_9 rfl (z_b_ltx0 (k := 0) (by decide) (show ¬ x1.toInt < 0 from by omega)) ?_
    refine z_e1 (pc1 := 13) (L1 := [some (.ref 4), some (.int x1)]) (S1 := [.null]) zd35_12 rfl rfl rfl ?_
    refine z_e1 (pc1 := 22) (L1 := [some (.ref 4), some (.int x1)]) (S1 := [.null]) zd35_13 rfl rfl rfl ?_
    refine z_ern zd35_22 zr35 ?_
    show z_ev _ 57 5 [some (.ref 4), some (.int x1), some (.int x2), some (.int x3), some (.int x4), none, none] [.null] _ _
    refine z_e1 (pc1 := 7) (L1 := [some (.ref 4), some (.int x1), some (.int x2), some (.int x3), some (.int x4), some (.null), none]) (S1 := []) zd57_5 rfl rfl rfl ?_
    refine z_e1 (pc1 := 9) (L1 := [some (.ref 4), some (.int x1), some (.int x2), some (.int x3), some (.int x4), some (.null), none]) (S1 := [.null]) zd57_7 rfl rfl rfl ?_
    refine z_e1 (pc1 := 28) (L1 := [some (.ref 4), some (.int x1), some (.int x2), some (.int x3), some (.int x4), some (.null), none]) (S1 := []) zd57_9 rfl rfl rfl ?_
    refine z_e1 (pc1 := 29) (L1 := [some (.ref 4), some (.int x1), some (.int x2), some (.int x3), some (.int x4), some (.null), none]) (S1 := [.int (-1)]) zd57_28 rfl rfl rfl ?_
    refine z_eri zd57_29 zr57 ?_
    show z_ev _ 0 614 [some (.ref 0), some (.ref 4), some (.ref 19), some (.int 0)] [.int (-1)] _ _
    refine z_e1 (pc1 := 615) (L1 := [some (.ref 0), some (.ref 4), some (.ref 19), some (.int 0)]) (S1 := [.ref 19, .int (-1)]) zd0_614 rfl rfl rfl ?_
    refine z_e1 (pc1 := 616) (L1 := [some (.ref 0), some (.ref 4), some (.ref 19), some (.int 0)]) (S1 := [.ref 0, .ref 19, .int (-1)]) zd0_615 rfl rfl rfl ?_
    refine z_e1 (pc1 := 617) (L1 := [some (.ref 0), some (.ref 4), some (.ref 19), some (.int 0)]) (S1 := [.int 0, .ref 0, .ref 19, .int (-1)]) zd0_616 rfl rfl rfl ?_
    refine z_e1 (pc1 := 618) (L1 := [some (.ref 0), some (.ref 4), some (.ref 19), some (.int 0)]) (S1 := [.int 1, .int 0, .ref 0, .ref 19, .int (-1)]) zd0_617 rfl rfl rfl ?_
    refine z_e1 (pc1 := 619) (L1 := [some (.ref 0), some (.ref 4), some (.ref 19), some (.int 0)]) (S1 := [.int 1, .ref 0, .ref 19, .int (-1)]) zd0_618 rfl rfl rfl ?_
    refine z_eial (y := x1) zd0_619 h0 (by decide) g1 ?_
    refine z_e1 (pc1 := 621) (L1 := [some (.ref 0), some (.ref 4), some (.ref 19), some (.int 0)]) (S1 := [.ref 0, .int x1, .ref 19, .int (-1)]) zd0_620 rfl rfl rfl ?_
    refine z_e1 (pc1 := 622) (L1 := [some (.ref 0), some (.ref 4), some (.ref 19), some (.int 0)]) (S1 := [.int 0, .ref 0, .int x1, .ref 19, .int (-1)]) zd0_621 rfl rfl rfl ?_
    refine z_e1 (pc1 := 623) (L1 := [some (.ref 0), some (.ref 4), some (.ref 19), some (.int 0)]) (S1 := [.int 2, .int 0, .ref 0, .int x1, .ref 19, .int (-1)]) zd0_622 rfl rfl rfl ?_
    refine z_e1 (pc1 := 624) (L1 := [some (.ref 0), some (.ref 4), some (.ref 19), some (.int 0)]) (S1 := [.int 2, .ref 0, .int x1, .ref 19, .int (-1)]) zd0_623 rfl rfl rfl ?_
    refine z_eial (y := x2) zd0_624 h0 (by decide) g2 ?_
    refine z_e1 (pc1 := 626) (L1 := [some (.ref 0), some (.ref 4), some (.ref 19), some (.int 0)]) (S1 := [.ref 0, .int x2, .int x1, .ref 19, .int (-1)]) zd0_625 rfl rfl rfl ?_
    refine z_e1 (pc1 := 627) (L1 := [some (.ref 0), some (.ref 4), some (.ref 19), some (.int 0)]) (S1 := [.int 0, .ref 0, .int x2, .int x1, .ref 19, .int (-1)]) zd0_626 rfl rfl rfl ?_
    refine z_e1 (pc1 := 628) (L1 := [some (.ref 0), some (.ref 4), some (.ref 19), some (.int 0)]) (S1 := [.int 3, .int 0, .ref 0, .int x2, .int x1, .ref 19, .int (-1)]) zd0_627 rfl rfl rfl ?_
    refine z_e1 (pc1 := 629) (L1 := [some (.ref 0), some (.ref 4), some (.ref 19), some (.int 0)]) (S1 := [.int 3, .ref 0, .int x2, .int x1, .ref 19, .int (-1)]) zd0_628 rfl rfl rfl ?_
    refine z_eial (y := x3) zd0_629 h0 (by decide) g3 ?_
    refine z_e1 (pc1 := 631) (L1 := [some (.ref 0), some (.ref 4), some (.ref 19), some (.int 0)]) (S1 := [.ref 0, .int x3, .int x2, .int x1, .ref 19, .int (-1)]) zd0_630 rfl rfl rfl ?_
    refine z_e1 (pc1 := 632) (L1 := [some (.ref 0), some (.ref 4), some (.ref 19), some (.int 0)]) (S1 := [.int 0, .ref 0, .int x3, .int x2, .int x1, .ref 19, .int (-1)]) zd0_631 rfl rfl rfl ?_
    refine z_e1 (pc1 := 633) (L1 := [some (.ref 0), some (.ref 4), some (.ref 19), some (.int 0)]) (S1 := [.int 4, .int 0, .ref 0, .int x3, .int x2, .int x1, .ref 19, .int (-1)]) zd0_632 rfl rfl rfl ?_
    refine z_e1 (pc1 := 634) (L1 := [some (.ref 0), some (.ref 4), some (.ref 19), some (.int 0)]) (S1 := [.int 4, .ref 0, .int x3, .int x2, .int x1, .ref 19, .int (-1)]) zd0_633 rfl rfl rfl ?_
    refine z_eial (y := x4) zd0_634 h0 (by decide) g4 ?_
    refine z_ecV (vs := [.ref 19, .int x1, .int x2, .int x3, .int x4]) (r := [.int (-1)]) (L2 := [some (.ref 19), some (.int x1), some (.int x2), some (.int x3), some (.int x4), none, none, none, none, none, none, none]) zd0_635 zcV0_60 (Or.inl rfl) rfl b19 (by decide) rfl rfl rfl (Nat.le_of_ble_eq_true rfl) zm224 (Nat.le_of_ble_eq_true rfl) rfl ?_
    refine z_e1 (pc1 := 1) (L1 := [some (.ref 19), some (.int x1), some (.int x2), some (.int x3), some (.int x4), none, none, none, none, none, none, none]) (S1 := [.ref 19]) zd224_0 rfl rfl rfl ?_
    refine z_e1 (pc1 := 2) (L1 := [some (.ref 19), some (.int x1), some (.int x2), some (.int x3), some (.int x4), none, none, none, none, none, none, none]) (S1 := [.int x1, .ref 19]) zd224_1 rfl rfl rfl ?_
    refine z_e1 (pc1 := 3) (L1 := [some (.ref 19), some (.int x1), some (.int x2), some (.int x3), some (.int x4), none, none, none, none, none, none, none]) (S1 := [.int x2, .int x1, .ref 19]) zd224_2 rfl rfl rfl ?_
    refine z_ecV (vs := [.ref 19, .int x1, .int x2]) (r := []) (L2 := [some (.ref 19), some (.int x1), some (.int x2)]) zd224_3 zcV224_234 (Or.inl rfl) rfl b19 (by decide) rfl rfl rfl (Nat.le_of_ble_eq_true rfl) zm223 (Nat.le_of_ble_eq_true rfl) rfl ?_
    refine z_e1 (pc1 := 1) (L1 := [some (.ref 19), some (.int x1), some (.int x2)]) (S1 := [.ref 19]) zd223_0 rfl rfl rfl ?_
    refine z_e1 (pc1 := 2) (L1 := [some (.ref 19), some (.int x1), some (.int x2)]) (S1 := [.int x1, .ref 19]) zd223_1 rfl rfl rfl ?_
    refine z_ecV (vs := [.ref 19, .int x1]) (r := []) (L2 := [some (.ref 19), some (.int x1)]) zd223_2 zcV223_209 (Or.inl rfl) rfl b19 (by decide) rfl rfl rfl (Nat.le_of_ble_eq_true rfl) zm209 (Nat.le_of_ble_eq_true rfl) rfl ?_
    refine z_e1 (pc1 := 1) (L1 := [some (.ref 19), some (.int x1)]) (S1 := [.int x1]) zd209_0 rfl rfl rfl ?_
    refine z_ez (t := 16) (t2 := 4) zd209_1 rfl (z_b_ltx0 (k := 0) (by decide) (show ¬ x1.toInt < 0 from by omega)) ?_
    refine z_e1 (pc1 := 5) (L1 := [some (.ref 19), some (.int x1)]) (S1 := [.int x1]) zd209_4 rfl rfl rfl ?_
    refine z_e1 (pc1 := 6) (L1 := [some (.ref 19), some (.int x1)]) (S1 := [.ref 19, .int x1]) zd209_5 rfl rfl rfl ?_
    refine z_egf (fs := [.ref 20, .int 0, .ref 21, .ref 22, .ref 23, .ref 24, .ref 25, .ref 26, .ref 27, .ref 28, .ref 29, .ref 30, .ref 31, .int 0, .ref 32, .ref 33, .ref 34, .ref 35, .ref 36, .ref 37, .ref 38, .int 0, .int 0, .int 0, .int 0, .int 0, .int 0, .int 0, .int 0, .int 0, .int 0, .ref 39, .ref 40, .ref 41, .int 0, .int 0, .ref 42, .ref 43, .ref 44, .ref 45, .ref 46, .int 0, .ref 47, .int 0, .int 0, .int 0, .ref 48, .int 0, .int 0, .ref 49, .ref 50, .ref 51, .ref 52]) (v := .int 0) zd209_6 zf209_110 b19 (by decide) (by decide) rfl ?_
    refine z_ej (t := 16) (t2 := 16) zd209_9 rfl (z_b_gex0 (k := 0) (by decide) (show ¬ x1.toInt < 0 from by omega)) ?_
    refine z_e1 (pc1 := 17) (L1 := [some (.ref 19), some (.int x1)]) (S1 := [.int 0]) zd209_16 rfl rfl rfl ?_
    refine z_erz zd209_17 zr209 (by decide) ?_
    show z_ev _ 223 5 [some (.ref 19), some (.int x1), some (.int x2)] [.int 0] _ _
    refine z_ez (t := 26) (t2 := 26) zd223_5 rfl rfl ?_
    refine z_e1 (pc1 := 27) (L1 := [some (.ref 19), some (.int x1), some (.int x2)]) (S1 := [.int 0]) zd223_26 rfl rfl rfl ?_
    refine z_erz zd223_27 zr223 (by decide) ?_
    show z_ev _ 224 6 [some (.ref 19), some (.int x1), some (.int x2), some (.int x3), some (.int x4), none, none, none, none, none, none, none] [.int 0] _ _
    refine z_ez (t := 16) (t2 := 16) zd224_6 rfl rfl ?_
    refine z_e1 (pc1 := 17) (L1 := [some (.ref 19), some (.int x1), some (.int x2), some (.int x3), some (.int x4), none, none, none, none, none, none, none]) (S1 := [.int (-1)]) zd224_16 rfl rfl rfl ?_
    refine z_eri zd224_17 zr224 ?_
    show z_ev _ 0 638 [some (.ref 0), some (.ref 4), some (.ref 19), some (.int 0)] [.int (-1), .int (-1)] _ _
    refine z_ej (t := 1775) (t2 := 1775) zd0_638 rfl rfl ?_
    refine z_e1 (pc1 := 1778) (L1 := [some (.ref 0), some (.ref 4), some (.ref 19), some (.int 6)]) (S1 := []) zd0_1775 rfl rfl rfl ?_
    refine z_e1 (pc1 := 18) (L1 := [some (.ref 0), some (.ref 4), some (.ref 19), some (.int 6)]) (S1 := []) zd0_1778 rfl rfl rfl ?_
    refine z_e1 (pc1 := 19) (L1 := [some (.ref 0), some (.ref 4), some (.ref 19), some (.int 6)]) (S1 := [.int 6]) zd0_18 rfl rfl rfl ?_
    refine z_e1 (pc1 := 20) (L1 := [some (.ref 0), some (.ref 4), some (.ref 19), some (.int 6)]) (S1 := [.ref 0, .int 6]) zd0_19 rfl rfl rfl ?_
    refine z_ealn (y := 6) zd0_20 h0 rfl ?_
    refine z_e1 (pc1 := 23) (L1 := [some (.ref 0), some (.ref 4), some (.ref 19), some (.int 6)]) (S1 := [.int 6, .int 6, .int 6]) zd0_21 rfl rfl rfl ?_
    refine z_e1 (pc1 := 24) (L1 := [some (.ref 0), some (.ref 4), some (.ref 19), some (.int 6)]) (S1 := [.int 0, .int 6]) zd0_23 rfl rfl rfl ?_
    refine z_ej (t := 1781) (t2 := 1781) zd0_24 rfl rfl ?_
    refine z_e1 (pc1 := 1782) (L1 := [some (.ref 0), some (.ref 4), some (.ref 19), some (.int 6)]) (S1 := [.int 1]) zd0_1781 rfl rfl rfl ?_
    refine z_erz zd0_1782 zr0 (by decide) ?_
    exact z_K1i hN hS (by decide) (by decide)
theorem z_C11 {M : zH} {xs : Nat → Int32} {x1 x2 x3 x4 x5 : Int32} (h0 : M[0]? = some (.inl (0, 6, .inl xs))) (hN : M.length = 53) (hS : z_sz M ≤ 50000) (hB : z_fr M 4 53) (g1 : xs 1 = x1) (g2 : xs 2 = x2) (g3 : xs 3 = x3) (g4 : xs 4 = x4) (g5 : xs 5 = x5) : z_ev 2047 0 643 [some (.ref 0), some (.ref 4), some (.ref 19), some (.int 0)] [] M z_K1 := by
  have b4 := z_qO (hB 4 (by decide) (by decide))
  have b19 := z_qO (hB 19 (by decide) (by decide))
  refine z_e1 (pc1 := 644) (L1 := [some (.ref 0), some (.ref 4), some (.ref 19), some (.int 0)]) (S1 := [.ref 4]) zd0_643 rfl rfl rfl ?_
  refine z_e1 (pc1 := 645) (L1 := [some (.ref 0), some (.ref 4), some (.ref 19), some (.int 0)]) (S1 := [.ref 0, .ref 4]) zd0_644 rfl rfl rfl ?_
  refine z_e1 (pc1 := 646) (L1 := [some (.ref 0), some (.ref 4), some (.ref 19), some (.int 0)]) (S1 := [.int 0, .ref 0, .ref 4]) zd0_645 rfl rfl rfl ?_
  refine z_e1 (pc1 := 647) (L1 := [some (.ref 0), some (.ref 4), some (.ref 19), some (.int 0)]) (S1 := [.int 1, .int 0, .ref 0, .ref 4]) zd0_646 rfl rfl rfl ?_
  refine z_e1 (pc1 := 648) (L1 := [some (.ref 0), some (.ref 4), some (.ref 19), some (.int 0)]) (S1 := [.int 1, .ref 0, .ref 4]) zd0_647 rfl rfl rfl ?_
  refine z_eial (y := x1) zd0_648 h0 (by decide) g1 ?_
  refine z_ecV (vs := [.ref 4, .int x1]) (r := []) (L2 := [some (.ref 4), some (.int x1), none, none]) zd0_649 zcV0_61 (Or.inl rfl) rfl b4 (by decide) rfl rfl rfl (Nat.le_of_ble_eq_true rfl) zm60 (Nat.le_of_ble_eq_true rfl) rfl ?_
  refine z_e1 (pc1 := 1) (L1 := [some (.ref 4), some (.int x1), none, none]) (S1 := [.ref 4]) zd60_0 rfl rfl rfl ?_
  refine z_e1 (pc1 := 2) (L1 := [some (.ref 4), some (.int x1), none, none]) (S1 := [.int x1, .ref 4]) zd60_1 rfl rfl rfl ?_
  refine z_ecV (vs := [.ref 4, .int x1]) (r := []) (L2 := [some (.ref 4), some (.int x1)]) zd60_2 zcV60_85 (Or.inl rfl) rfl b4 (by decide) rfl rfl rfl (Nat.le_of_ble_eq_true rfl) zm35 (Nat.le_of_ble_eq_true rfl) rfl ?_
  refine z_e1 (pc1 := 1) (L1 := [some (.ref 4), some (.int x1)]) (S1 := [.int x1]) zd35_0 rfl rfl rfl ?_
  by_cases e1 : x1.toInt < 0
  · refine z_ez (t := 12) (t2 := 12) zd35_1 rfl (z_b_ltx1 (k := 0) (by decide) e1) ?_
    refine z_e1 (pc1 := 13) (L1 := [some (.ref 4), some (.int x1)]) (S1 := [.null]) zd35_12 rfl rfl rfl ?_
    refine z_e1 (pc1 := 22) (L1 := [some (.ref 4), some (.int x1)]) (S1 := [.null]) zd35_13 rfl rfl rfl ?_
    refine z_ern zd35_22 zr35 ?_
    show z_ev _ 60 5 [some (.ref 4), some (.int x1), none, none] [.null] _ _
    refine z_e1 (pc1 := 6) (L1 := [some (.ref 4), some (.int x1), some (.null), none]) (S1 := []) zd60_5 rfl rfl rfl ?_
    refine z_e1 (pc1 := 7) (L1 := [some (.ref 4), some (.int x1), some (.null), none]) (S1 := [.null]) zd60_6 rfl rfl rfl ?_
    refine z_e1 (pc1 := 10) (L1 := [some (.ref 4), some (.int x1), some (.null), none]) (S1 := []) zd60_7 rfl rfl rfl ?_
    refine z_e1 (pc1 := 11) (L1 := [some (.ref 4), some (.int x1), some (.null), none]) (S1 := [.int (-1)]) zd60_10 rfl rfl rfl ?_
    refine z_eri zd60_11 zr60 ?_
    show z_ev _ 0 652 [some (.ref 0), some (.ref 4), some (.ref 19), some (.int 0)] [.int (-1)] _ _
    refine z_e1 (pc1 := 653) (L1 := [some (.ref 0), some (.ref 4), some (.ref 19), some (.int 0)]) (S1 := [.ref 19, .int (-1)]) zd0_652 rfl rfl rfl ?_
    refine z_e1 (pc1 := 654) (L1 := [some (.ref 0), some (.ref 4), some (.ref 19), some (.int 0)]) (S1 := [.ref 0, .ref 19, .int (-1)]) zd0_653 rfl rfl rfl ?_
    refine z_e1 (pc1 := 655) (L1 := [some (.ref 0), some (.ref 4), some (.ref 19), some (.int 0)]) (S1 := [.int 0, .ref 0, .ref 19, .int (-1)]) zd0_654 rfl rfl rfl ?_
    refine z_e1 (pc1 := 656) (L1 := [some (.ref 0), some (.ref 4), some (.ref 19), some (.int 0)]) (S1 := [.int 1, .int 0, .ref 0, .ref 19, .int (-1)]) zd0_655 rfl rfl rfl ?_
    refine z_e1 (pc1 := 657) (L1 := [some (.ref 0), some (.ref 4), some (.ref 19), some (.int 0)]) (S1 := [.int 1, .ref 0, .ref 19, .int (-1)]) zd0_656 rfl rfl rfl ?_
    refine z_eial (y := x1) zd0_657 h0 (by decide) g1 ?_
    refine z_ecV (vs := [.ref 19, .int x1]) (r := [.int (-1)]) (L2 := [some (.ref 19), some (.int x1), none]) zd0_658 zcV0_65 (Or.inl rfl) rfl b19 (by decide) rfl rfl rfl (Nat.le_of_ble_eq_true rfl) zm226 (Nat.le_of_ble_eq_true rfl) rfl ?_
    refine z_e1 (pc1 := 1) (L1 := [some (.ref 19), some (.int x1), none]) (S1 := [.ref 19]) zd226_0 rfl rfl rfl ?_
    refine z_e1 (pc1 := 2) (L1 := [some (.ref 19), some (.int x1), none]) (S1 := [.int x1, .ref 19]) zd226_1 rfl rfl rfl ?_
    refine z_ecV (vs := [.ref 19, .int x1]) (r := []) (L2 := [some (.ref 19), some (.int x1)]) zd226_2 zcV226_209 (Or.inl rfl) rfl b19 (by decide) rfl rfl rfl (Nat.le_of_ble_eq_true rfl) zm209 (Nat.le_of_ble_eq_true rfl) rfl ?_
    refine z_e1 (pc1 := 1) (L1 := [some (.ref 19), some (.int x1)]) (S1 := [.int x1]) zd209_0 rfl rfl rfl ?_
    refine z_ez (t := 16) (t2 := 16) zd209_1 rfl (z_b_ltx1 (k := 0) (by decide) (show x1.toInt < 0 from by omega)) ?_
    refine z_e1 (pc1 := 17) (L1 := [some (.ref 19), some (.int x1)]) (S1 := [.int 0]) zd209_16 rfl rfl rfl ?_
    refine z_erz zd209_17 zr209 (by decide) ?_
    show z_ev _ 226 5 [some (.ref 19), some (.int x1), none] [.int 0] _ _
    refine z_ez (t := 10) (t2 := 8) zd226_5 rfl rfl ?_
    refine z_e1 (pc1 := 9) (L1 := [some (.ref 19), some (.int x1), none]) (S1 := [.int (-1)]) zd226_8 rfl rfl rfl ?_
    refine z_eri zd226_9 zr226 ?_
    show z_ev _ 0 661 [some (.ref 0), some (.ref 4), some (.ref 19), some (.int 0)] [.int (-1), .int (-1)] _ _
    refine z_ej (t := 1775) (t2 := 1775) zd0_661 rfl rfl ?_
    refine z_e1 (pc1 := 1778) (L1 := [some (.ref 0), some (.ref 4), some (.ref 19), some (.int 6)]) (S1 := []) zd0_1775 rfl rfl rfl ?_
    refine z_e1 (pc1 := 18) (L1 := [some (.ref 0), some (.ref 4), some (.ref 19), some (.int 6)]) (S1 := []) zd0_1778 rfl rfl rfl ?_
    refine z_e1 (pc1 := 19) (L1 := [some (.ref 0), some (.ref 4), some (.ref 19), some (.int 6)]) (S1 := [.int 6]) zd0_18 rfl rfl rfl ?_
    refine z_e1 (pc1 := 20) (L1 := [some (.ref 0), some (.ref 4), some (.ref 19), some (.int 6)]) (S1 := [.ref 0, .int 6]) zd0_19 rfl rfl rfl ?_
    refine z_ealn (y := 6) zd0_20 h0 rfl ?_
    refine z_e1 (pc1 := 23) (L1 := [some (.ref 0), some (.ref 4), some (.ref 19), some (.int 6)]) (S1 := [.int 6, .int 6, .int 6]) zd0_21 rfl rfl rfl ?_
    refine z_e1 (pc1 := 24) (L1 := [some (.ref 0), some (.ref 4), some (.ref 19), some (.int 6)]) (S1 := [.int 0, .int 6]) zd0_23 rfl rfl rfl ?_
    refine z_ej (t := 1781) (t2 := 1781) zd0_24 rfl rfl ?_
    refine z_e1 (pc1 := 1782) (L1 := [some (.ref 0), some (.ref 4), some (.ref 19), some (.int 6)]) (S1 := [.int 1]) zd0_1781 rfl rfl rfl ?_
    refine z_erz zd0_1782 zr0 (by decide) ?_
    exact z_K1i hN hS (by decide) (by decide)
  · refine z_ez (t := 12) (t2 := 4) zd35_1 rfl (z_b_ltx0 (k := 0) (by decide) e1) ?_
    refine z_e1 (pc1 := 5) (L1 := [some (.ref 4), some (.int x1)]) (S1 := [.int x1]) zd35_4 rfl rfl rfl ?_
    refine z_e1 (pc1 := 6) (L1 := [some (.ref 4), some (.int x1)]) (S1 := [.ref 4, .int x1]) zd35_5 rfl rfl rfl ?_
    refine z_egf (fs := [.ref 5, .ref 10, .ref 11, .int 0, .ref 12, .int 0, .ref 13, .ref 14, .ref 15, .ref 16, .ref 17, .ref 18, .null]) (v := .int 0) zd35_6 zf35_59 b4 (by decide) (by decide) rfl ?_
    refine z_ej (t := 16) (t2 := 12) zd35_9 rfl (z_b_ltx0 (k := 0) (by decide) (show ¬ x1.toInt < 0 from by omega)) ?_
    refine z_e1 (pc1 := 13) (L1 := [some (.ref 4), some (.int x1)]) (S1 := [.null]) zd35_12 rfl rfl rfl ?_
    refine z_e1 (pc1 := 22) (L1 := [some (.ref 4), some (.int x1)]) (S1 := [.null]) zd35_13 rfl rfl rfl ?_
    refine z_ern zd35_22 zr35 ?_
    show z_ev _ 60 5 [some (.ref 4), some (.int x1), none, none] [.null] _ _
    refine z_e1 (pc1 := 6) (L1 := [some (.ref 4), some (.int x1), some (.null), none]) (S1 := []) zd60_5 rfl rfl rfl ?_
    refine z_e1 (pc1 := 7) (L1 := [some (.ref 4), some (.int x1), some (.null), none]) (S1 := [.null]) zd60_6 rfl rfl rfl ?_
    refine z_e1 (pc1 := 10) (L1 := [some (.ref 4), some (.int x1), some (.null), none]) (S1 := []) zd60_7 rfl rfl rfl ?_
    refine z_e1 (pc1 := 11) (L1 := [some (.ref 4), some (.int x1), some (.null), none]) (S1 := [.int (-1)]) zd60_10 rfl rfl rfl ?_
    refine z_eri zd60_11 zr60 ?_
    show z_ev _ 0 652 [some (.ref 0), some (.ref 4), some (.ref 19), some (.int 0)] [.int (-1)] _ _
    refine z_e1 (pc1 := 653) (L1 := [some (.ref 0), some (.ref 4), some (.ref 19), some (.int 0)]) (S1 := [.ref 19, .int (-1)]) zd0_652 rfl rfl rfl ?_
    refine z_e1 (pc1 := 654) (L1 := [some (.ref 0), some (.ref 4), some (.ref 19), some (.int 0)]) (S1 := [.ref 0, .ref 19, .int (-1)]) zd0_653 rfl rfl rfl ?_
    refine z_e1 (pc1 := 655) (L1 := [some (.ref 0), some (.ref 4), some (.ref 19), some (.int 0)]) (S1 := [.int 0, .ref 0, .ref 19, .int (-1)]) zd0_654 rfl rfl rfl ?_
    refine z_e1 (pc1 := 656) (L1 := [some (.ref 0), some (.ref 4), some (.ref 19), some (.int 0)]) (S1 := [.int 1, .int 0, .ref 0, .ref 19, .int (-1)]) zd0_655 rfl rfl rfl ?_
    refine z_e1 (pc1 := 657) (L1 := [some (.ref 0), some (.ref 4), some (.ref 19), some (.int 0)]) (S1 := [.int 1, .ref 0, .ref 19, .int (-1)]) zd0_656 rfl rfl rfl ?_
    refine z_eial (y := x1) zd0_657 h0 (by decide) g1 ?_
    refine z_ecV (vs := [.ref 19, .int x1]) (r := [.int (-1)]) (L2 := [some (.ref 19), some (.int x1), none]) zd0_658 zcV0_65 (Or.inl rfl) rfl b19 (by decide) rfl rfl rfl (Nat.le_of_ble_eq_true rfl) zm226 (Nat.le_of_ble_eq_true rfl) rfl ?_
    refine z_e1 (pc1 := 1) (L1 := [some (.ref 19), some (.int x1), none]) (S1 := [.ref 19]) zd226_0 rfl rfl rfl ?_
    refine z_e1 (pc1 := 2) (L1 := [some (.ref 19), some (.int x1), none]) (S1 := [.int x1, .ref 19]) zd226_1 rfl rfl rfl ?_
    refine z_ecV (vs := [.ref 19, .int x1]) (r := []) (L2 := [some (.ref 19), some (.int x1)]) zd226_2 zcV226_209 (Or.inl rfl) rfl b19 (by decide) rfl rfl rfl (Nat.le_of_ble_eq_true rfl) zm209 (Nat.le_of_ble_eq_true rfl) rfl ?_
    refine z_e1 (pc1 := 1) (L1 := [some (.ref 19), some (.int x1)]) (S1 := [.int x1]) zd209_0 rfl rfl rfl ?_
    refine z_ez (t := 16) (t2 := 4) zd209_1 rfl (z_b_ltx0 (k := 0) (by decide) (show ¬ x1.toInt < 0 from by omega)) ?_
    refine z_e1 (pc1 := 5) (L1 := [some (.ref 19), some (.int x1)]) (S1 := [.int x1]) zd209_4 rfl rfl rfl ?_
    refine z_e1 (pc1 := 6) (L1 := [some (.ref 19), some (.int x1)]) (S1 := [.ref 19, .int x1]) zd209_5 rfl rfl rfl ?_
    refine z_egf (fs := [.ref 20, .int 0, .ref 21, .ref 22, .ref 23, .ref 24, .ref 25, .ref 26, .ref 27, .ref 28, .ref 29, .ref 30, .ref 31, .int 0, .ref 32, .ref 33, .ref 34, .ref 35, .ref 36, .ref 37, .ref 38, .int 0, .int 0, .int 0, .int 0, .int 0, .int 0, .int 0, .int 0, .int 0, .int 0, .ref 39, .ref 40, .ref 41, .int 0, .int 0, .ref 42, .ref 43, .ref 44, .ref 45, .ref 46, .int 0, .ref 47, .int 0, .int 0, .int 0, .ref 48, .int 0, .int 0, .ref 49, .ref 50, .ref 51, .ref 52]) (v := .int 0) zd209_6 zf209_110 b19 (by decide) (by decide) rfl ?_
    refine z_ej (t := 16) (t2 := 16) zd209_9 rfl (z_b_gex0 (k := 0) (by decide) (show ¬ x1.toInt < 0 from by omega)) ?_
    refine z_e1 (pc1 := 17) (L1 := [some (.ref 19), some (.int x1)]) (S1 := [.int 0]) zd209_16 rfl rfl rfl ?_
    refine z_erz zd209_17 zr209 (by decide) ?_
    show z_ev _ 226 5 [some (.ref 19), some (.int x1), none] [.int 0] _ _
    refine z_ez (t := 10) (t2 := 8) zd226_5 rfl rfl ?_
    refine z_e1 (pc1 := 9) (L1 := [some (.ref 19), some (.int x1), none]) (S1 := [.int (-1)]) zd226_8 rfl rfl rfl ?_
    refine z_eri zd226_9 zr226 ?_
    show z_ev _ 0 661 [some (.ref 0), some (.ref 4), some (.ref 19), some (.int 0)] [.int (-1), .int (-1)] _ _
    refine z_ej (t := 1775) (t2 := 1775) zd0_661 rfl rfl ?_
    refine z_e1 (pc1 := 1778) (L1 := [some (.ref 0), some (.ref 4), some (.ref 19), some (.int 6)]) (S1 := []) zd0_1775 rfl rfl rfl ?_
    refine z_e1 (pc1 := 18) (L1 := [some (.ref 0), some (.ref 4), some (.ref 19), some (.int 6)]) (S1 := []) zd0_1778 rfl rfl rfl ?_
    refine z_e1 (pc1 := 19) (L1 := [some (.ref 0), some (.ref 4), some (.ref 19), some (.int 6)]) (S1 := [.int 6]) zd0_18 rfl rfl rfl ?_
    refine z_e1 (pc1 := 20) (L1 := [some (.ref 0), some (.ref 4), some (.ref 19), some (.int 6)]) (S1 := [.ref 0, .int 6]) zd0_19 rfl rfl rfl ?_
    refine z_ealn (y := 6) zd0_20 h0 rfl ?_
    refine z_e1 (pc1 := 23) (L1 := [some (.ref 0), some (.ref 4), some (.ref 19), some (.int 6)]) (S1 := [.int 6, .int 6, .int 6]) zd0_21 rfl rfl rfl ?_
    refine z_e1 (pc1 := 24) (L1 := [some (.ref 0), some (.ref 4), some (.ref 19), some (.int 6)]) (S1 := [.int 0, .int 6]) zd0_23 rfl rfl rfl ?_
    refine z_ej (t := 1781) (t2 := 1781) zd0_24 rfl rfl ?_
    refine z_e1 (pc1 := 1782) (L1 := [some (.ref 0), some (.ref 4), some (.ref 19), some (.int 6)]) (S1 := [.int 1]) zd0_1781 rfl rfl rfl ?_
    refine z_erz zd0_1782 zr0 (by decide) ?_
    exact z_K1i hN hS (by decide) (by decide)
theorem z_C12 {M : zH} {xs : Nat → Int32} {x1 x2 x3 x4 x5 : Int32} (h0 : M[0]? = some (.inl (0, 6, .inl xs))) (hN : M.length = 53) (hS : z_sz M ≤ 50000) (hB : z_fr M 4 53) (g1 : xs 1 = x1) (g2 : xs 2 = x2) (g3 : xs 3 = x3) (g4 : xs 4 = x4) (g5 : xs 5 = x5) : z_ev 2047 0 666 [some (.ref 0), some (.ref 4), some (.ref 19), some (.int 0)] [] M z_K1 := by
  have b4 := z_qO (hB 4 (by decide) (by decide))
  have b19 := z_qO (hB 19 (by decide) (by decide))
  refine z_e1 (pc1 := 667) (L1 := [some (.ref 0), some (.ref 4), some (.ref 19), some (.int 0)]) (S1 := [.ref 4]) zd0_666 rfl rfl rfl ?_
  refine z_e1 (pc1 := 668) (L1 := [some (.ref 0), some (.ref 4), some (.ref 19), some (.int 0)]) (S1 := [.ref 0, .ref 4]) zd0_667 rfl rfl rfl ?_
  refine z_e1 (pc1 := 669) (L1 := [some (.ref 0), some (.ref 4), some (.ref 19), some (.int 0)]) (S1 := [.int 0, .ref 0, .ref 4]) zd0_668 rfl rfl rfl ?_
  refine z_e1 (pc1 := 670) (L1 := [some (.ref 0), some (.ref 4), some (.ref 19), some (.int 0)]) (S1 := [.int 1, .int 0, .ref 0, .ref 4]) zd0_669 rfl rfl rfl ?_
  refine z_e1 (pc1 := 671) (L1 := [some (.ref 0), some (.ref 4), some (.ref 19), some (.int 0)]) (S1 := [.int 1, .ref 0, .ref 4]) zd0_670 rfl rfl rfl ?_
  refine z_eial (y := x1) zd0_671 h0 (by decide) g1 ?_
  refine z_e1 (pc1 := 673) (L1 := [some (.ref 0), some (.ref 4), some (.ref 19), some (.int 0)]) (S1 := [.ref 0, .int x1, .ref 4]) zd0_672 rfl rfl rfl ?_
  refine z_e1 (pc1 := 674) (L1 := [some (.ref 0), some (.ref 4), some (.ref 19), some (.int 0)]) (S1 := [.int 0, .ref 0, .int x1, .ref 4]) zd0_673 rfl rfl rfl ?_
  refine z_e1 (pc1 := 675) (L1 := [some (.ref 0), some (.ref 4), some (.ref 19), some (.int 0)]) (S1 := [.int 2, .int 0, .ref 0, .int x1, .ref 4]) zd0_674 rfl rfl rfl ?_
  refine z_e1 (pc1 := 676) (L1 := [some (.ref 0), some (.ref 4), some (.ref 19), some (.int 0)]) (S1 := [.int 2, .ref 0, .int x1, .ref 4]) zd0_675 rfl rfl rfl ?_
  refine z_eial (y := x2) zd0_676 h0 (by decide) g2 ?_
  refine z_e1 (pc1 := 678) (L1 := [some (.ref 0), some (.ref 4), some (.ref 19), some (.int 0)]) (S1 := [.ref 0, .int x2, .int x1, .ref 4]) zd0_677 rfl rfl rfl ?_
  refine z_e1 (pc1 := 679) (L1 := [some (.ref 0), some (.ref 4), some (.ref 19), some (.int 0)]) (S1 := [.int 0, .ref 0, .int x2, .int x1, .ref 4]) zd0_678 rfl rfl rfl ?_
  refine z_e1 (pc1 := 680) (L1 := [some (.ref 0), some (.ref 4), some (.ref 19), some (.int 0)]) (S1 := [.int 3, .int 0, .ref 0, .int x2, .int x1, .ref 4]) zd0_679 rfl rfl rfl ?_
  refine z_e1 (pc1 := 681) (L1 := [some (.ref 0), some (.ref 4), some (.ref 19), some (.int 0)]) (S1 := [.int 3, .ref 0, .int x2, .int x1, .ref 4]) zd0_680 rfl rfl rfl ?_
  refine z_eial (y := x3) zd0_681 h0 (by decide) g3 ?_
  refine z_ecV (vs := [.ref 4, .int x1, .int x2, .int x3]) (r := []) (L2 := [some (.ref 4), some (.int x1), some (.int x2), some (.int x3), none]) zd0_682 zcV0_66 (Or.inl rfl) rfl b4 (by decide) rfl rfl rfl (Nat.le_of_ble_eq_true rfl) zm62 (Nat.le_of_ble_eq_true rfl) rfl ?_
  refine z_e1 (pc1 := 1) (L1 := [some (.ref 4), some (.int x1), some (.int x2), some (.int x3), none]) (S1 := [.ref 4]) zd62_0 rfl rfl rfl ?_
  refine z_e1 (pc1 := 2) (L1 := [some (.ref 4), some (.int x1), some (.int x2), some (.int x3), none]) (S1 := [.int x1, .ref 4]) zd62_1 rfl rfl rfl ?_
  refine z_ecV (vs := [.ref 4, .int x1]) (r := []) (L2 := [some (.ref 4), some (.int x1)]) zd62_2 zcV62_85 (Or.inl rfl) rfl b4 (by decide) rfl rfl rfl (Nat.le_of_ble_eq_true rfl) zm35 (Nat.le_of_ble_eq_true rfl) rfl ?_
  refine z_e1 (pc1 := 1) (L1 := [some (.ref 4), some (.int x1)]) (S1 := [.int x1]) zd35_0 rfl rfl rfl ?_
  by_cases e1 : x1.toInt < 0
  · refine z_ez (t := 12) (t2 := 12) zd35_1 rfl (z_b_ltx1 (k := 0) (by decide) e1) ?_
    refine z_e1 (pc1 := 13) (L1 := [some (.ref 4), some (.int x1)]) (S1 := [.null]) zd35_12 rfl rfl rfl ?_
    refine z_e1 (pc1 := 22) (L1 := [some (.ref 4), some (.int x1)]) (S1 := [.null]) zd35_13 rfl rfl rfl ?_
    refine z_ern zd35_22 zr35 ?_
    show z_ev _ 62 5 [some (.ref 4), some (.int x1), some (.int x2), some (.int x3), none] [.null] _ _
    refine z_e1 (pc1 := 7) (L1 := [some (.ref 4), some (.int x1), some (.int x2), some (.int x3), some (.null)]) (S1 := []) zd62_5 rfl rfl rfl ?_
    refine z_e1 (pc1 := 9) (L1 := [some (.ref 4), some (.int x1), some (.int x2), some (.int x3), some (.null)]) (S1 := [.null]) zd62_7 rfl rfl rfl ?_
    refine z_e1 (pc1 := 21) (L1 := [some (.ref 4), some (.int x1), some (.int x2), some (.int x3), some (.null)]) (S1 := []) zd62_9 rfl rfl rfl ?_
    refine z_e1 (pc1 := 22) (L1 := [some (.ref 4), some (.int x1), some (.int x2), some (.int x3), some (.null)]) (S1 := [.int (-1)]) zd62_21 rfl rfl rfl ?_
    refine z_eri zd62_22 zr62 ?_
    show z_ev _ 0 685 [some (.ref 0), some (.ref 4), some (.ref 19), some (.int 0)] [.int (-1)] _ _
    refine z_e1 (pc1 := 686) (L1 := [some (.ref 0), some (.ref 4), some (.ref 19), some (.int 0)]) (S1 := [.ref 19, .int (-1)]) zd0_685 rfl rfl rfl ?_
    refine z_e1 (pc1 := 687) (L1 := [some (.ref 0), some (.ref 4), some (.ref 19), some (.int 0)]) (S1 := [.ref 0, .ref 19, .int (-1)]) zd0_686 rfl rfl rfl ?_
    refine z_e1 (pc1 := 688) (L1 := [some (.ref 0), some (.ref 4), some (.ref 19), some (.int 0)]) (S1 := [.int 0, .ref 0, .ref 19, .int (-1)]) zd0_687 rfl rfl rfl ?_
    refine z_e1 (pc1 := 689) (L1 := [some (.ref 0), some (.ref 4), some (.ref 19), some (.int 0)]) (S1 := [.int 1, .int 0, .ref 0, .ref 19, .int (-1)]) zd0_688 rfl rfl rfl ?_
    refine z_e1 (pc1 := 690) (L1 := [some (.ref 0), some (.ref 4), some (.ref 19), some (.int 0)]) (S1 := [.int 1, .ref 0, .ref 19, .int (-1)]) zd0_689 rfl rfl rfl ?_
    refine z_eial (y := x1) zd0_690 h0 (by decide) g1 ?_
    refine z_e1 (pc1 := 692) (L1 := [some (.ref 0), some (.ref 4), some (.ref 19), some (.int 0)]) (S1 := [.ref 0, .int x1, .ref 19, .int (-1)]) zd0_691 rfl rfl rfl ?_
    refine z_e1 (pc1 := 693) (L1 := [some (.ref 0), some (.ref 4), some (.ref 19), some (.int 0)]) (S1 := [.int 0, .ref 0, .int x1, .ref 19, .int (-1)]) zd0_692 rfl rfl rfl ?_
    refine z_e1 (pc1 := 694) (L1 := [some (.ref 0), some (.ref 4), some (.ref 19), some (.int 0)]) (S1 := [.int 2, .int 0, .ref 0, .int x1, .ref 19, .int (-1)]) zd0_693 rfl rfl rfl ?_
    refine z_e1 (pc1 := 695) (L1 := [some (.ref 0), some (.ref 4), some (.ref 19), some (.int 0)]) (S1 := [.int 2, .ref 0, .int x1, .ref 19, .int (-1)]) zd0_694 rfl rfl rfl ?_
    refine z_eial (y := x2) zd0_695 h0 (by decide) g2 ?_
    refine z_e1 (pc1 := 697) (L1 := [some (.ref 0), some (.ref 4), some (.ref 19), some (.int 0)]) (S1 := [.ref 0, .int x2, .int x1, .ref 19, .int (-1)]) zd0_696 rfl rfl rfl ?_
    refine z_e1 (pc1 := 698) (L1 := [some (.ref 0), some (.ref 4), some (.ref 19), some (.int 0)]) (S1 := [.int 0, .ref 0, .int x2, .int x1, .ref 19, .int (-1)]) zd0_697 rfl rfl rfl ?_
    refine z_e1 (pc1 := 699) (L1 := [some (.ref 0), some (.ref 4), some (.ref 19), some (.int 0)]) (S1 := [.int 3, .int 0, .ref 0, .int x2, .int x1, .ref 19, .int (-1)]) zd0_698 rfl rfl rfl ?_
    refine z_e1 (pc1 := 700) (L1 := [some (.ref 0), some (.ref 4), some (.ref 19), some (.int 0)]) (S1 := [.int 3, .ref 0, .int x2, .int x1, .ref 19, .int (-1)]) zd0_699 rfl rfl rfl ?_
    refine z_eial (y := x3) zd0_700 h0 (by decide) g3 ?_
    refine z_ecV (vs := [.ref 19, .int x1, .int x2, .int x3]) (r := [.int (-1)]) (L2 := [some (.ref 19), some (.int x1), some (.int x2), some (.int x3), none]) zd0_701 zcV0_69 (Or.inl rfl) rfl b19 (by decide) rfl rfl rfl (Nat.le_of_ble_eq_true rfl) zm227 (Nat.le_of_ble_eq_true rfl) rfl ?_
    refine z_e1 (pc1 := 1) (L1 := [some (.ref 19), some (.int x1), some (.int x2), some (.int x3), none]) (S1 := [.ref 19]) zd227_0 rfl rfl rfl ?_
    refine z_e1 (pc1 := 2) (L1 := [some (.ref 19), some (.int x1), some (.int x2), some (.int x3), none]) (S1 := [.int x1, .ref 19]) zd227_1 rfl rfl rfl ?_
    refine z_e1 (pc1 := 3) (L1 := [some (.ref 19), some (.int x1), some (.int x2), some (.int x3), none]) (S1 := [.int x2, .int x1, .ref 19]) zd227_2 rfl rfl rfl ?_
    refine z_ecV (vs := [.ref 19, .int x1, .int x2]) (r := []) (L2 := [some (.ref 19), some (.int x1), some (.int x2)]) zd227_3 zcV227_234 (Or.inl rfl) rfl b19 (by decide) rfl rfl rfl (Nat.le_of_ble_eq_true rfl) zm223 (Nat.le_of_ble_eq_true rfl) rfl ?_
    refine z_e1 (pc1 := 1) (L1 := [some (.ref 19), some (.int x1), some (.int x2)]) (S1 := [.ref 19]) zd223_0 rfl rfl rfl ?_
    refine z_e1 (pc1 := 2) (L1 := [some (.ref 19), some (.int x1), some (.int x2)]) (S1 := [.int x1, .ref 19]) zd223_1 rfl rfl rfl ?_
    refine z_ecV (vs := [.ref 19, .int x1]) (r := []) (L2 := [some (.ref 19), some (.int x1)]) zd223_2 zcV223_209 (Or.inl rfl) rfl b19 (by decide) rfl rfl rfl (Nat.le_of_ble_eq_true rfl) zm209 (Nat.le_of_ble_eq_true rfl) rfl ?_
    refine z_e1 (pc1 := 1) (L1 := [some (.ref 19), some (.int x1)]) (S1 := [.int x1]) zd209_0 rfl rfl rfl ?_
    refine z_ez (t := 16) (t2 := 16) zd209_1 rfl (z_b_ltx1 (k := 0) (by decide) (show x1.toInt < 0 from by omega)) ?_
    refine z_e1 (pc1 := 17) (L1 := [some (.ref 19), some (.int x1)]) (S1 := [.int 0]) zd209_16 rfl rfl rfl ?_
    refine z_erz zd209_17 zr209 (by decide) ?_
    show z_ev _ 223 5 [some (.ref 19), some (.int x1), some (.int x2)] [.int 0] _ _
    refine z_ez (t := 26) (t2 := 26) zd223_5 rfl rfl ?_
    refine z_e1 (pc1 := 27) (L1 := [some (.ref 19), some (.int x1), some (.int x2)]) (S1 := [.int 0]) zd223_26 rfl rfl rfl ?_
    refine z_erz zd223_27 zr223 (by decide) ?_
    show z_ev _ 227 6 [some (.ref 19), some (.int x1), some (.int x2), some (.int x3), none] [.int 0] _ _
    refine z_ez (t := 21) (t2 := 21) zd227_6 rfl rfl ?_
    refine z_e1 (pc1 := 22) (L1 := [some (.ref 19), some (.int x1), some (.int x2), some (.int x3), none]) (S1 := [.int (-1)]) zd227_21 rfl rfl rfl ?_
    refine z_eri zd227_22 zr227 ?_
    show z_ev _ 0 704 [some (.ref 0), some (.ref 4), some (.ref 19), some (.int 0)] [.int (-1), .int (-1)] _ _
    refine z_ej (t := 1775) (t2 := 1775) zd0_704 rfl rfl ?_
    refine z_e1 (pc1 := 1778) (L1 := [some (.ref 0), some (.ref 4), some (.ref 19), some (.int 6)]) (S1 := []) zd0_1775 rfl rfl rfl ?_
    refine z_e1 (pc1 := 18) (L1 := [some (.ref 0), some (.ref 4), some (.ref 19), some (.int 6)]) (S1 := []) zd0_1778 rfl rfl rfl ?_
    refine z_e1 (pc1 := 19) (L1 := [some (.ref 0), some (.ref 4), some (.ref 19), some (.int 6)]) (S1 := [.int 6]) zd0_18 rfl rfl rfl ?_
    refine z_e1 (pc1 := 20) (L1 := [some (.ref 0), some (.ref 4), some (.ref 19), some (.int 6)]) (S1 := [.ref 0, .int 6]) zd0_19 rfl rfl rfl ?_
    refine z_ealn (y := 6) zd0_20 h0 rfl ?_
    refine z_e1 (pc1 := 23) (L1 := [some (.ref 0), some (.ref 4), some (.ref 19), some (.int 6)]) (S1 := [.int 6, .int 6, .int 6]) zd0_21 rfl rfl rfl ?_
    refine z_e1 (pc1 := 24) (L1 := [some (.ref 0), some (.ref 4), some (.ref 19), some (.int 6)]) (S1 := [.int 0, .int 6]) zd0_23 rfl rfl rfl ?_
    refine z_ej (t := 1781) (t2 := 1781) zd0_24 rfl rfl ?_
    refine z_e1 (pc1 := 1782) (L1 := [some (.ref 0), some (.ref 4), some (.ref 19), some (.int 6)]) (S1 := [.int 1]) zd0_1781 rfl rfl rfl ?_
    refine z_erz zd0_1782 zr0 (by decide) ?_
    exact z_K1i hN hS (by decide) (by decide)
  · refine z_ez (t := 12) (t2 := 4) zd35_1 rfl (z_b_ltx0 (k := 0) (by decide) e1) ?_
    refine z_e1 (pc1 := 5) (L1 := [some (.ref 4), some (.int x1)]) (S1 := [.int x1]) zd35_4 rfl rfl rfl ?_
    refine z_e1 (pc1 := 6) (L1 := [some (.ref 4), some (.int x1)]) (S1 := [.ref 4, .int x1]) zd35_5 rfl rfl rfl ?_
    refine z_egf (fs := [.ref 5, .ref 10, .ref 11, .int 0, .ref 12, .int 0, .ref 13, .ref 14, .ref 15, .ref 16, .ref 17, .ref 18, .null]) (v := .int 0) zd35_6 zf35_59 b4 (by decide) (by decide) rfl ?_
    refine z_ej (t := 16) (t2 := 12) zd35_9 rfl (z_b_ltx0 (k := 0) (by decide) (show ¬ x1.toInt < 0 from by omega)) ?_
    refine z_e1 (pc1 := 13) (L1 := [some (.ref 4), some (.int x1)]) (S1 := [.null]) zd35_12 rfl rfl rfl ?_
    refine z_e1 (pc1 := 22) (L1 := [some (.ref 4), some (.int x1)]) (S1 := [.null]) zd35_13 rfl rfl rfl ?_
    refine z_ern zd35_22 zr35 ?_
    show z_ev _ 62 5 [some (.ref 4), some (.int x1), some (.int x2), some (.int x3), none] [.null] _ _
    refine z_e1 (pc1 := 7) (L1 := [some (.ref 4), some (.int x1), some (.int x2), some (.int x3), some (.null)]) (S1 := []) zd62_5 rfl rfl rfl ?_
    refine z_e1 (pc1 := 9) (L1 := [some (.ref 4), some (.int x1), some (.int x2), some (.int x3), some (.null)]) (S1 := [.null]) zd62_7 rfl rfl rfl ?_
    refine z_e1 (pc1 := 21) (L1 := [some (.ref 4), some (.int x1), some (.int x2), some (.int x3), some (.null)]) (S1 := []) zd62_9 rfl rfl rfl ?_
    refine z_e1 (pc1 := 22) (L1 := [some (.ref 4), some (.int x1), some (.int x2), some (.int x3), some (.null)]) (S1 := [.int (-1)]) zd62_21 rfl rfl rfl ?_
    refine z_eri zd62_22 zr62 ?_
    show z_ev _ 0 685 [some (.ref 0), some (.ref 4), some (.ref 19), some (.int 0)] [.int (-1)] _ _
    refine z_e1 (pc1 := 686) (L1 := [some (.ref 0), some (.ref 4), some (.ref 19), some (.int 0)]) (S1 := [.ref 19, .int (-1)]) zd0_685 rfl rfl rfl ?_
    refine z_e1 (pc1 := 687) (L1 := [some (.ref 0), some (.ref 4), some (.ref 19), some (.int 0)]) (S1 := [.ref 0, .ref 19, .int (-1)]) zd0_686 rfl rfl rfl ?_
    refine z_e1 (pc1 := 688) (L1 := [some (.ref 0), some (.ref 4), some (.ref 19), some (.int 0)]) (S1 := [.int 0, .ref 0, .ref 19, .int (-1)]) zd0_687 rfl rfl rfl ?_
    refine z_e1 (pc1 := 689) (L1 := [some (.ref 0), some (.ref 4), some (.ref 19), some (.int 0)]) (S1 := [.int 1, .int 0, .ref 0, .ref 19, .int (-1)]) zd0_688 rfl rfl rfl ?_
    refine z_e1 (pc1 := 690) (L1 := [some (.ref 0), some (.ref 4), some (.ref 19), some (.int 0)]) (S1 := [.int 1, .ref 0, .ref 19, .int (-1)]) zd0_689 rfl rfl rfl ?_
    refine z_eial (y := x1) zd0_690 h0 (by decide) g1 ?_
    refine z_e1 (pc1 := 692) (L1 := [some (.ref 0), some (.ref 4), some (.ref 19), some (.int 0)]) (S1 := [.ref 0, .int x1, .ref 19, .int (-1)]) zd0_691 rfl rfl rfl ?_
    refine z_e1 (pc1 := 693) (L1 := [some (.ref 0), some (.ref 4), some (.ref 19), some (.int 0)]) (S1 := [.int 0, .ref 0, .int x1, .ref 19, .int (-1)]) zd0_692 rfl rfl rfl ?_
    refine z_e1 (pc1 := 694) (L1 := [some (.ref 0), some (.ref 4), some (.ref 19), some (.int 0)]) (S1 := [.int 2, .int 0, .ref 0, .int x1, .ref 19, .int (-1)]) zd0_693 rfl rfl rfl ?_
    refine z_e1 (pc1 := 695) (L1 := [some (.ref 0), some (.ref 4), some (.ref 19), some (.int 0)]) (S1 := [.int 2, .ref 0, .int x1, .ref 19, .int (-1)]) zd0_694 rfl rfl rfl ?_
    refine z_eial (y := x2) zd0_695 h0 (by decide) g2 ?_
    refine z_e1 (pc1 := 697) (L1 := [some (.ref 0), some (.ref 4), some (.ref 19), some (.int 0)]) (S1 := [.ref 0, .int x2, .int x1, .ref 19, .int (-1)]) zd0_696 rfl rfl rfl ?_
    refine z_e1 (pc1 := 698) (L1 := [some (.ref 0), some (.ref 4), some (.ref 19), some (.int 0)]) (S1 := [.int 0, .ref 0, .int x2, .int x1, .ref 19, .int (-1)]) zd0_697 rfl rfl rfl ?_
    refine z_e1 (pc1 := 699) (L1 := [some (.ref 0), some (.ref 4), some (.ref 19), some (.int 0)]) (S1 := [.int 3, .int 0, .ref 0, .int x2, .int x1, .ref 19, .int (-1)]) zd0_698 rfl rfl rfl ?_
    refine z_e1 (pc1 := 700) (L1 := [some (.ref 0), some (.ref 4), some (.ref 19), some (.int 0)]) (S1 := [.int 3, .ref 0, .int x2, .int x1, .ref 19, .int (-1)]) zd0_699 rfl rfl rfl ?_
    refine z_eial (y := x3) zd0_700 h0 (by decide) g3 ?_
    refine z_ecV (vs := [.ref 19, .int x1, .int x2, .int x3]) (r := [.int (-1)]) (L2 := [some (.ref 19), some (.int x1), some (.int x2), some (.int x3), none]) zd0_701 zcV0_69 (Or.inl rfl) rfl b19 (by decide) rfl rfl rfl (Nat.le_of_ble_eq_true rfl) zm227 (Nat.le_of_ble_eq_true rfl) rfl ?_
    refine z_e1 (pc1 := 1) (L1 := [some (.ref 19), some (.int x1), some (.int x2), some (.int x3), none]) (S1 := [.ref 19]) zd227_0 rfl rfl rfl ?_
    refine z_e1 (pc1 := 2) (L1 := [some (.ref 19), some (.int x1), some (.int x2), some (.int x3), none]) (S1 := [.int x1, .ref 19]) zd227_1 rfl rfl rfl ?_
    refine z_e1 (pc1 := 3) (L1 := [some (.ref 19), some (.int x1), some (.int x2), some (.int x3), none]) (S1 := [.int x2, .int x1, .ref 19]) zd227_2 rfl rfl rfl ?_
    refine z_ecV (vs := [.ref 19, .int x1, .int x2]) (r := []) (L2 := [some (.ref 19), some (.int x1), some (.int x2)]) zd227_3 zcV227_234 (Or.inl rfl) rfl b19 (by decide) rfl rfl rfl (Nat.le_of_ble_eq_true rfl) zm223 (Nat.le_of_ble_eq_true rfl) rfl ?_
    refine z_e1 (pc1 := 1) (L1 := [some (.ref 19), some (.int x1), some (.int x2)]) (S1 := [.ref 19]) zd223_0 rfl rfl rfl ?_
    refine z_e1 (pc1 := 2) (L1 := [some (.ref 19), some (.int x1), some (.int x2)]) (S1 := [.int x1, .ref 19]) zd223_1 rfl rfl rfl ?_
    refine z_ecV (vs := [.ref 19, .int x1]) (r := []) (L2 := [some (.ref 19), some (.int x1)]) zd223_2 zcV223_209 (Or.inl rfl) rfl b19 (by decide) rfl rfl rfl (Nat.le_of_ble_eq_true rfl) zm209 (Nat.le_of_ble_eq_true rfl) rfl ?_
    refine z_e1 (pc1 := 1) (L1 := [some (.ref 19), some (.int x1)]) (S1 := [.int x1]) zd209_0 rfl rfl rfl ?_
    refine z_ez (t := 16) (t2 := 4) zd209_1 rfl (z_b_ltx0 (k := 0) (by decide) (show ¬ x1.toInt < 0 from by omega)) ?_
    refine z_e1 (pc1 := 5) (L1 := [some (.ref 19), some (.int x1)]) (S1 := [.int x1]) zd209_4 rfl rfl rfl ?_
    refine z_e1 (pc1 := 6) (L1 := [some (.ref 19), some (.int x1)]) (S1 := [.ref 19, .int x1]) zd209_5 rfl rfl rfl ?_
    refine z_egf (fs := [.ref 20, .int 0, .ref 21, .ref 22, .ref 23, .ref 24, .ref 25, .ref 26, .ref 27, .ref 28, .ref 29, .ref 30, .ref 31, .int 0, .ref 32, .ref 33, .ref 34, .ref 35, .ref 36, .ref 37, .ref 38, .int 0, .int 0, .int 0, .int 0, .int 0, .int 0, .int 0, .int 0, .int 0, .int 0, .ref 39, .ref 40, .ref 41, .int 0, .int 0, .ref 42, .ref 43, .ref 44, .ref 45, .ref 46, .int 0, .ref 47, .int 0, .int 0, .int 0, .ref 48, .int 0, .int 0, .ref 49, .ref 50, .ref 51, .ref 52]) (v := .int 0) zd209_6 zf209_110 b19 (by decide) (by decide) rfl ?_
    refine z_ej (t := 16) (t2 := 16) zd209_9 rfl (z_b_gex0 (k := 0) (by decide) (show ¬ x1.toInt < 0 from by omega)) ?_
    refine z_e1 (pc1 := 17) (L1 := [some (.ref 19), some (.int x1)]) (S1 := [.int 0]) zd209_16 rfl rfl rfl ?_
    refine z_erz zd209_17 zr209 (by decide) ?_
    show z_ev _ 223 5 [some (.ref 19), some (.int x1), some (.int x2)] [.int 0] _ _
    refine z_ez (t := 26) (t2 := 26) zd223_5 rfl rfl ?_
    refine z_e1 (pc1 := 27) (L1 := [some (.ref 19), some (.int x1), some (.int x2)]) (S1 := [.int 0]) zd223_26 rfl rfl rfl ?_
    refine z_erz zd223_27 zr223 (by decide) ?_
    show z_ev _ 227 6 [some (.ref 19), some (.int x1), some (.int x2), some (.int x3), none] [.int 0] _ _
    refine z_ez (t := 21) (t2 := 21) zd227_6 rfl rfl ?_
    refine z_e1 (pc1 := 22) (L1 := [some (.ref 19), some (.int x1), some (.int x2), some (.int x3), none]) (S1 := [.int (-1)]) zd227_21 rfl rfl rfl ?_
    refine z_eri zd227_22 zr227 ?_
    show z_ev _ 0 704 [some (.ref 0), some (.ref 4), some (.ref 19), some (.int 0)] [.int (-1), .int (-1)] _ _
    refine z_ej (t := 1775) (t2 := 1775) zd0_704 rfl rfl ?_
    refine z_e1 (pc1 := 1778) (L1 := [some (.ref 0), some (.ref 4), some (.ref 19), some (.int 6)]) (S1 := []) zd0_1775 rfl rfl rfl ?_
    refine z_e1 (pc1 := 18) (L1 := [some (.ref 0), some (.ref 4), some (.ref 19), some (.int 6)]) (S1 := []) zd0_1778 rfl rfl rfl ?_
    refine z_e1 (pc1 := 19) (L1 := [some (.ref 0), some (.ref 4), some (.ref 19), some (.int 6)]) (S1 := [.int 6]) zd0_18 rfl rfl rfl ?_
    refine z_e1 (pc1 := 20) (L1 := [some (.ref 0), some (.ref 4), some (.ref 19), some (.int 6)]) (S1 := [.ref 0, .int 6]) zd0_19 rfl rfl rfl ?_
    refine z_ealn (y := 6) zd0_20 h0 rfl ?_
    refine z_e1 (pc1 := 23) (L1 := [some (.ref 0), some (.ref 4), some (.ref 19), some (.int 6)]) (S1 := [.int 6, .int 6, .int 6]) zd0_21 rfl rfl rfl ?_
    refine z_e1 (pc1 := 24) (L1 := [some (.ref 0), some (.ref 4), some (.ref 19), some (.int 6)]) (S1 := [.int 0, .int 6]) zd0_23 rfl rfl rfl ?_
    refine z_ej (t := 1781) (t2 := 1781) zd0_24 rfl rfl ?_
    refine z_e1 (pc1 := 1782) (L1 := [some (.ref 0), some (.ref 4), some (.ref 19), some (.int 6)]) (S1 := [.int 1]) zd0_1781 rfl rfl rfl ?_
    refine z_erz zd0_1782 zr0 (by decide) ?_
    exact z_K1i hN hS (by decide) (by decide)
theorem z_C13 {M : zH} {xs : Nat → Int32} {x1 x2 x3 x4 x5 : Int32} (h0 : M[0]? = some (.inl (0, 6, .inl xs))) (hN : M.length = 53) (hS : z_sz M ≤ 50000) (hB : z_fr M 4 53) (g1 : xs 1 = x1) (g2 : xs 2 = x2) (g3 : xs 3 = x3) (g4 : xs 4 = x4) (g5 : xs 5 = x5) : z_ev 2047 0 709 [some (.ref 0), some (.ref 4), some (.ref 19), some (.int 0)] [] M z_K1 := by
  have b4 := z_qO (hB 4 (by decide) (by decide))
  have b19 := z_qO (hB 19 (by decide) (by decide))
  refine z_e1 (pc1 := 710) (L1 := [some (.ref 0), some (.ref 4), some (.ref 19), some (.int 0)]) (S1 := [.ref 4]) zd0_709 rfl rfl rfl ?_
  refine z_e1 (pc1 := 711) (L1 := [some (.ref 0), some (.ref 4), some (.ref 19), some (.int 0)]) (S1 := [.ref 0, .ref 4]) zd0_710 rfl rfl rfl ?_
  refine z_e1 (pc1 := 712) (L1 := [some (.ref 0), some (.ref 4), some (.ref 19), some (.int 0)]) (S1 := [.int 0, .ref 0, .ref 4]) zd0_711 rfl rfl rfl ?_
  refine z_e1 (pc1 := 713) (L1 := [some (.ref 0), some (.ref 4), some (.ref 19), some (.int 0)]) (S1 := [.int 1, .int 0, .ref 0, .ref 4]) zd0_712 rfl rfl rfl ?_
  refine z_e1 (pc1 := 714) (L1 := [some (.ref 0), some (.ref 4), some (.ref 19), some (.int 0)]) (S1 := [.int 1, .ref 0, .ref 4]) zd0_713 rfl rfl rfl ?_
  refine z_eial (y := x1) zd0_714 h0 (by decide) g1 ?_
  refine z_e1 (pc1 := 716) (L1 := [some (.ref 0), some (.ref 4), some (.ref 19), some (.int 0)]) (S1 := [.ref 0, .int x1, .ref 4]) zd0_715 rfl rfl rfl ?_
  refine z_e1 (pc1 := 717) (L1 := [some (.ref 0), some (.ref 4), some (.ref 19), some (.int 0)]) (S1 := [.int 0, .ref 0, .int x1, .ref 4]) zd0_716 rfl rfl rfl ?_
  refine z_e1 (pc1 := 718) (L1 := [some (.ref 0), some (.ref 4), some (.ref 19), some (.int 0)]) (S1 := [.int 2, .int 0, .ref 0, .int x1, .ref 4]) zd0_717 rfl rfl rfl ?_
  refine z_e1 (pc1 := 719) (L1 := [some (.ref 0), some (.ref 4), some (.ref 19), some (.int 0)]) (S1 := [.int 2, .ref 0, .int x1, .ref 4]) zd0_718 rfl rfl rfl ?_
  refine z_eial (y := x2) zd0_719 h0 (by decide) g2 ?_
  refine z_e1 (pc1 := 721) (L1 := [some (.ref 0), some (.ref 4), some (.ref 19), some (.int 0)]) (S1 := [.ref 0, .int x2, .int x1, .ref 4]) zd0_720 rfl rfl rfl ?_
  refine z_e1 (pc1 := 722) (L1 := [some (.ref 0), some (.ref 4), some (.ref 19), some (.int 0)]) (S1 := [.int 0, .ref 0, .int x2, .int x1, .ref 4]) zd0_721 rfl rfl rfl ?_
  refine z_e1 (pc1 := 723) (L1 := [some (.ref 0), some (.ref 4), some (.ref 19), some (.int 0)]) (S1 := [.int 3, .int 0, .ref 0, .int x2, .int x1, .ref 4]) zd0_722 rfl rfl rfl ?_
  refine z_e1 (pc1 := 724) (L1 := [some (.ref 0), some (.ref 4), some (.ref 19), some (.int 0)]) (S1 := [.int 3, .ref 0, .int x2, .int x1, .ref 4]) zd0_723 rfl rfl rfl ?_
  refine z_eial (y := x3) zd0_724 h0 (by decide) g3 ?_
  refine z_ecV (vs := [.ref 4, .int x1, .int x2, .int x3]) (r := []) (L2 := [some (.ref 4), some (.int x1), some (.int x2), some (.int x3), none]) zd0_725 zcV0_70 (Or.inl rfl) rfl b4 (by decide) rfl rfl rfl (Nat.le_of_ble_eq_true rfl) zm63 (Nat.le_of_ble_eq_true rfl) rfl ?_
  refine z_e1 (pc1 := 1) (L1 := [some (.ref 4), some (.int x1), some (.int x2), some (.int x3), none]) (S1 := [.ref 4]) zd63_0 rfl rfl rfl ?_
  refine z_e1 (pc1 := 2) (L1 := [some (.ref 4), some (.int x1), some (.int x2), some (.int x3), none]) (S1 := [.int x1, .ref 4]) zd63_1 rfl rfl rfl ?_
  refine z_ecV (vs := [.ref 4, .int x1]) (r := []) (L2 := [some (.ref 4), some (.int x1)]) zd63_2 zcV63_85 (Or.inl rfl) rfl b4 (by decide) rfl rfl rfl (Nat.le_of_ble_eq_true rfl) zm35 (Nat.le_of_ble_eq_true rfl) rfl ?_
  refine z_e1 (pc1 := 1) (L1 := [some (.ref 4), some (.int x1)]) (S1 := [.int x1]) zd35_0 rfl rfl rfl ?_
  by_cases e1 : x1.toInt < 0
  · refine z_ez (t := 12) (t2 := 12) zd35_1 rfl (z_b_ltx1 (k := 0) (by decide) e1) ?_
    refine z_e1 (pc1 := 13) (L1 := [some (.ref 4), some (.int x1)]) (S1 := [.null]) zd35_12 rfl rfl rfl ?_
    refine z_e1 (pc1 := 22) (L1 := [some (.ref 4), some (.int x1)]) (S1 := [.null]) zd35_13 rfl rfl rfl ?_
    refine z_ern zd35_22 zr35 ?_
    show z_ev _ 63 5 [some (.ref 4), some (.int x1), some (.int x2), some (.int x3), none] [.null] _ _
    refine z_e1 (pc1 := 7) (L1 := [some (.ref 4), some (.int x1), some (.int x2), some (.int x3), some (.null)]) (S1 := []) zd63_5 rfl rfl rfl ?_
    refine z_e1 (pc1 := 9) (L1 := [some (.ref 4), some (.int x1), some (.int x2), some (.int x3), some (.null)]) (S1 := [.null]) zd63_7 rfl rfl rfl ?_
    refine z_e1 (pc1 := 31) (L1 := [some (.ref 4), some (.int x1), some (.int x2), some (.int x3), some (.null)]) (S1 := []) zd63_9 rfl rfl rfl ?_
    refine z_e1 (pc1 := 32) (L1 := [some (.ref 4), some (.int x1), some (.int x2), some (.int x3), some (.null)]) (S1 := [.int (-1)]) zd63_31 rfl rfl rfl ?_
    refine z_eri zd63_32 zr63 ?_
    show z_ev _ 0 728 [some (.ref 0), some (.ref 4), some (.ref 19), some (.int 0)] [.int (-1)] _ _
    refine z_e1 (pc1 := 729) (L1 := [some (.ref 0), some (.ref 4), some (.ref 19), some (.int 0)]) (S1 := [.ref 19, .int (-1)]) zd0_728 rfl rfl rfl ?_
    refine z_e1 (pc1 := 730) (L1 := [some (.ref 0), some (.ref 4), some (.ref 19), some (.int 0)]) (S1 := [.ref 0, .ref 19, .int (-1)]) zd0_729 rfl rfl rfl ?_
    refine z_e1 (pc1 := 731) (L1 := [some (.ref 0), some (.ref 4), some (.ref 19), some (.int 0)]) (S1 := [.int 0, .ref 0, .ref 19, .int (-1)]) zd0_730 rfl rfl rfl ?_
    refine z_e1 (pc1 := 732) (L1 := [some (.ref 0), some (.ref 4), some (.ref 19), some (.int 0)]) (S1 := [.int 1, .int 0, .ref 0, .ref 19, .int (-1)]) zd0_731 rfl rfl rfl ?_
    refine z_e1 (pc1 := 733) (L1 := [some (.ref 0), some (.ref 4), some (.ref 19), some (.int 0)]) (S1 := [.int 1, .ref 0, .ref 19, .int (-1)]) zd0_732 rfl rfl rfl ?_
    refine z_eial (y := x1) zd0_733 h0 (by decide) g1 ?_
    refine z_e1 (pc1 := 735) (L1 := [some (.ref 0), some (.ref 4), some (.ref 19), some (.int 0)]) (S1 := [.ref 0, .int x1, .ref 19, .int (-1)]) zd0_734 rfl rfl rfl ?_
    refine z_e1 (pc1 := 736) (L1 := [some (.ref 0), some (.ref 4), some (.ref 19), some (.int 0)]) (S1 := [.int 0, .ref 0, .int x1, .ref 19, .int (-1)]) zd0_735 rfl rfl rfl ?_
    refine z_e1 (pc1 := 737) (L1 := [some (.ref 0), some (.ref 4), some (.ref 19), some (.int 0)]) (S1 := [.int 2, .int 0, .ref 0, .int x1, .ref 19, .int (-1)]) zd0_736 rfl rfl rfl ?_
    refine z_e1 (pc1 := 738) (L1 := [some (.ref 0), some (.ref 4), some (.ref 19), some (.int 0)]) (S1 := [.int 2, .ref 0, .int x1, .ref 19, .int (-1)]) zd0_737 rfl rfl rfl ?_
    refine z_eial (y := x2) zd0_738 h0 (by decide) g2 ?_
    refine z_e1 (pc1 := 740) (L1 := [some (.ref 0), some (.ref 4), some (.ref 19), some (.int 0)]) (S1 := [.ref 0, .int x2, .int x1, .ref 19, .int (-1)]) zd0_739 rfl rfl rfl ?_
    refine z_e1 (pc1 := 741) (L1 := [some (.ref 0), some (.ref 4), some (.ref 19), some (.int 0)]) (S1 := [.int 0, .ref 0, .int x2, .int x1, .ref 19, .int (-1)]) zd0_740 rfl rfl rfl ?_
    refine z_e1 (pc1 := 742) (L1 := [some (.ref 0), some (.ref 4), some (.ref 19), some (.int 0)]) (S1 := [.int 3, .int 0, .ref 0, .int x2, .int x1, .ref 19, .int (-1)]) zd0_741 rfl rfl rfl ?_
    refine z_e1 (pc1 := 743) (L1 := [some (.ref 0), some (.ref 4), some (.ref 19), some (.int 0)]) (S1 := [.int 3, .ref 0, .int x2, .int x1, .ref 19, .int (-1)]) zd0_742 rfl rfl rfl ?_
    refine z_eial (y := x3) zd0_743 h0 (by decide) g3 ?_
    refine z_ecV (vs := [.ref 19, .int x1, .int x2, .int x3]) (r := [.int (-1)]) (L2 := [some (.ref 19), some (.int x1), some (.int x2), some (.int x3)]) zd0_744 zcV0_73 (Or.inl rfl) rfl b19 (by decide) rfl rfl rfl (Nat.le_of_ble_eq_true rfl) zm228 (Nat.le_of_ble_eq_true rfl) rfl ?_
    refine z_e1 (pc1 := 1) (L1 := [some (.ref 19), some (.int x1), some (.int x2), some (.int x3)]) (S1 := [.ref 19]) zd228_0 rfl rfl rfl ?_
    refine z_e1 (pc1 := 2) (L1 := [some (.ref 19), some (.int x1), some (.int x2), some (.int x3)]) (S1 := [.int x1, .ref 19]) zd228_1 rfl rfl rfl ?_
    refine z_ecV (vs := [.ref 19, .int x1]) (r := []) (L2 := [some (.ref 19), some (.int x1)]) zd228_2 zcV228_209 (Or.inl rfl) rfl b19 (by decide) rfl rfl rfl (Nat.le_of_ble_eq_true rfl) zm209 (Nat.le_of_ble_eq_true rfl) rfl ?_
    refine z_e1 (pc1 := 1) (L1 := [some (.ref 19), some (.int x1)]) (S1 := [.int x1]) zd209_0 rfl rfl rfl ?_
    refine z_ez (t := 16) (t2 := 16) zd209_1 rfl (z_b_ltx1 (k := 0) (by decide) (show x1.toInt < 0 from by omega)) ?_
    refine z_e1 (pc1 := 17) (L1 := [some (.ref 19), some (.int x1)]) (S1 := [.int 0]) zd209_16 rfl rfl rfl ?_
    refine z_erz zd209_17 zr209 (by decide) ?_
    show z_ev _ 228 5 [some (.ref 19), some (.int x1), some (.int x2), some (.int x3)] [.int 0] _ _
    refine z_ez (t := 27) (t2 := 27) zd228_5 rfl rfl ?_
    refine z_e1 (pc1 := 28) (L1 := [some (.ref 19), some (.int x1), some (.int x2), some (.int x3)]) (S1 := [.int (-1)]) zd228_27 rfl rfl rfl ?_
    refine z_eri zd228_28 zr228 ?_
    show z_ev _ 0 747 [some (.ref 0), some (.ref 4), some (.ref 19), some (.int 0)] [.int (-1), .int (-1)] _ _
    refine z_ej (t := 1775) (t2 := 1775) zd0_747 rfl rfl ?_
    refine z_e1 (pc1 := 1778) (L1 := [some (.ref 0), some (.ref 4), some (.ref 19), some (.int 6)]) (S1 := []) zd0_1775 rfl rfl rfl ?_
    refine z_e1 (pc1 := 18) (L1 := [some (.ref 0), some (.ref 4), some (.ref 19), some (.int 6)]) (S1 := []) zd0_1778 rfl rfl rfl ?_
    refine z_e1 (pc1 := 19) (L1 := [some (.ref 0), some (.ref 4), some (.ref 19), some (.int 6)]) (S1 := [.int 6]) zd0_18 rfl rfl rfl ?_
    refine z_e1 (pc1 := 20) (L1 := [some (.ref 0), some (.ref 4), some (.ref 19), some (.int 6)]) (S1 := [.ref 0, .int 6]) zd0_19 rfl rfl rfl ?_
    refine z_ealn (y := 6) zd0_20 h0 rfl ?_
    refine z_e1 (pc1 := 23) (L1 := [some (.ref 0), some (.ref 4), some (.ref 19), some (.int 6)]) (S1 := [.int 6, .int 6, .int 6]) zd0_21 rfl rfl rfl ?_
    refine z_e1 (pc1 := 24) (L1 := [some (.ref 0), some (.ref 4), some (.ref 19), some (.int 6)]) (S1 := [.int 0, .int 6]) zd0_23 rfl rfl rfl ?_
    refine z_ej (t := 1781) (t2 := 1781) zd0_24 rfl rfl ?_
    refine z_e1 (pc1 := 1782) (L1 := [some (.ref 0), some (.ref 4), some (.ref 19), some (.int 6)]) (S1 := [.int 1]) zd0_1781 rfl rfl rfl ?_
    refine z_erz zd0_1782 zr0 (by decide) ?_
    exact z_K1i hN hS (by decide) (by decide)
  · refine z_ez (t := 12) (t2 := 4) zd35_1 rfl (z_b_ltx0 (k := 0) (by decide) e1) ?_
    refine z_e1 (pc1 := 5) (L1 := [some (.ref 4), some (.int x1)]) (S1 := [.int x1]) zd35_4 rfl rfl rfl ?_
    refine z_e1 (pc1 := 6) (L1 := [some (.ref 4), some (.int x1)]) (S1 := [.ref 4, .int x1]) zd35_5 rfl rfl rfl ?_
    refine z_egf (fs := [.ref 5, .ref 10, .ref 11, .int 0, .ref 12, .int 0, .ref 13, .ref 14, .ref 15, .ref 16, .ref 17, .ref 18, .null]) (v := .int 0) zd35_6 zf35_59 b4 (by decide) (by decide) rfl ?_
    refine z_ej (t := 16) (t2 := 12) zd35_9 rfl (z_b_ltx0 (k := 0) (by decide) (show ¬ x1.toInt < 0 from by omega)) ?_
    refine z_e1 (pc1 := 13) (L1 := [some (.ref 4), some (.int x1)]) (S1 := [.null]) zd35_12 rfl rfl rfl ?_
    refine z_e1 (pc1 := 22) (L1 := [some (.ref 4), some (.int x1)]) (S1 := [.null]) zd35_13 rfl rfl rfl ?_
    refine z_ern zd35_22 zr35 ?_
    show z_ev _ 63 5 [some (.ref 4), some (.int x1), some (.int x2), some (.int x3), none] [.null] _ _
    refine z_e1 (pc1 := 7) (L1 := [some (.ref 4), some (.int x1), some (.int x2), some (.int x3), some (.null)]) (S1 := []) zd63_5 rfl rfl rfl ?_
    refine z_e1 (pc1 := 9) (L1 := [some (.ref 4), some (.int x1), some (.int x2), some (.int x3), some (.null)]) (S1 := [.null]) zd63_7 rfl rfl rfl ?_
    refine z_e1 (pc1 := 31) (L1 := [some (.ref 4), some (.int x1), some (.int x2), some (.int x3), some (.null)]) (S1 := []) zd63_9 rfl rfl rfl ?_
    refine z_e1 (pc1 := 32) (L1 := [some (.ref 4), some (.int x1), some (.int x2), some (.int x3), some (.null)]) (S1 := [.int (-1)]) zd63_31 rfl rfl rfl ?_
    refine z_eri zd63_32 zr63 ?_
    show z_ev _ 0 728 [some (.ref 0), some (.ref 4), some (.ref 19), some (.int 0)] [.int (-1)] _ _
    refine z_e1 (pc1 := 729) (L1 := [some (.ref 0), some (.ref 4), some (.ref 19), some (.int 0)]) (S1 := [.ref 19, .int (-1)]) zd0_728 rfl rfl rfl ?_
    refine z_e1 (pc1 := 730) (L1 := [some (.ref 0), some (.ref 4), some (.ref 19), some (.int 0)]) (S1 := [.ref 0, .ref 19, .int (-1)]) zd0_729 rfl rfl rfl ?_
    refine z_e1 (pc1 := 731) (L1 := [some (.ref 0), some (.ref 4), some (.ref 19), some (.int 0)]) (S1 := [.int 0, .ref 0, .ref 19, .int (-1)]) zd0_730 rfl rfl rfl ?_
    refine z_e1 (pc1 := 732) (L1 := [some (.ref 0), some (.ref 4), some (.ref 19), some (.int 0)]) (S1 := [.int 1, .int 0, .ref 0, .ref 19, .int (-1)]) zd0_731 rfl rfl rfl ?_
    refine z_e1 (pc1 := 733) (L1 := [some (.ref 0), some (.ref 4), some (.ref 19), some (.int 0)]) (S1 := [.int 1, .ref 0, .ref 19, .int (-1)]) zd0_732 rfl rfl rfl ?_
    refine z_eial (y := x1) zd0_733 h0 (by decide) g1 ?_
    refine z_e1 (pc1 := 735) (L1 := [some (.ref 0), some (.ref 4), some (.ref 19), some (.int 0)]) (S1 := [.ref 0, .int x1, .ref 19, .int (-1)]) zd0_734 rfl rfl rfl ?_
    refine z_e1 (pc1 := 736) (L1 := [some (.ref 0), some (.ref 4), some (.ref 19), some (.int 0)]) (S1 := [.int 0, .ref 0, .int x1, .ref 19, .int (-1)]) zd0_735 rfl rfl rfl ?_
    refine z_e1 (pc1 := 737) (L1 := [some (.ref 0), some (.ref 4), some (.ref 19), some (.int 0)]) (S1 := [.int 2, .int 0, .ref 0, .int x1, .ref 19, .int (-1)]) zd0_736 rfl rfl rfl ?_
    refine z_e1 (pc1 := 738) (L1 := [some (.ref 0), some (.ref 4), some (.ref 19), some (.int 0)]) (S1 := [.int 2, .ref 0, .int x1, .ref 19, .int (-1)]) zd0_737 rfl rfl rfl ?_
    refine z_eial (y := x2) zd0_738 h0 (by decide) g2 ?_
    refine z_e1 (pc1 := 740) (L1 := [some (.ref 0), some (.ref 4), some (.ref 19), some (.int 0)]) (S1 := [.ref 0, .int x2, .int x1, .ref 19, .int (-1)]) zd0_739 rfl rfl rfl ?_
    refine z_e1 (pc1 := 741) (L1 := [some (.ref 0), some (.ref 4), some (.ref 19), some (.int 0)]) (S1 := [.int 0, .ref 0, .int x2, .int x1, .ref 19, .int (-1)]) zd0_740 rfl rfl rfl ?_
    refine z_e1 (pc1 := 742) (L1 := [some (.ref 0), some (.ref 4), some (.ref 19), some (.int 0)]) (S1 := [.int 3, .int 0, .ref 0, .int x2, .int x1, .ref 19, .int (-1)]) zd0_741 rfl rfl rfl ?_
    refine z_e1 (pc1 := 743) (L1 := [some (.ref 0), some (.ref 4), some (.ref 19), some (.int 0)]) (S1 := [.int 3, .ref 0, .int x2, .int x1, .ref 19, .int (-1)]) zd0_742 rfl rfl rfl ?_
    refine z_eial (y := x3) zd0_743 h0 (by decide) g3 ?_
    refine z_ecV (vs := [.ref 19, .int x1, .int x2, .int x3]) (r := [.int (-1)]) (L2 := [some (.ref 19), some (.int x1), some (.int x2), some (.int x3)]) zd0_744 zcV0_73 (Or.inl rfl) rfl b19 (by decide) rfl rfl rfl (Nat.le_of_ble_eq_true rfl) zm228 (Nat.le_of_ble_eq_true rfl) rfl ?_
    refine z_e1 (pc1 := 1) (L1 := [some (.ref 19), some (.int x1), some (.int x2), some (.int x3)]) (S1 := [.ref 19]) zd228_0 rfl rfl rfl ?_
    refine z_e1 (pc1 := 2) (L1 := [some (.ref 19), some (.int x1), some (.int x2), some (.int x3)]) (S1 := [.int x1, .ref 19]) zd228_1 rfl rfl rfl ?_
    refine z_ecV (vs := [.ref 19, .int x1]) (r := []) (L2 := [some (.ref 19), some (.int x1)]) zd228_2 zcV228_209 (Or.inl rfl) rfl b19 (by decide) rfl rfl rfl (Nat.le_of_ble_eq_true rfl) zm209 (Nat.le_of_ble_eq_true rfl) rfl ?_
    refine z_e1 (pc1 := 1) (L1 := [some (.ref 19), some (.int x1)]) (S1 := [.int x1]) zd209_0 rfl rfl rfl ?_
    refine z_ez (t := 16) (t2 := 4) zd209_1 rfl (z_b_ltx0 (k := 0) (by decide) (show ¬ x1.toInt < 0 from by omega)) ?_
    refine z_e1 (pc1 := 5) (L1 := [some (.ref 19), some (.int x1)]) (S1 := [.int x1]) zd209_4 rfl rfl rfl ?_
    refine z_e1 (pc1 := 6) (L1 := [some (.ref 19), some (.int x1)]) (S1 := [.ref 19, .int x1]) zd209_5 rfl rfl rfl ?_
    refine z_egf (fs := [.ref 20, .int 0, .ref 21, .ref 22, .ref 23, .ref 24, .ref 25, .ref 26, .ref 27, .ref 28, .ref 29, .ref 30, .ref 31, .int 0, .ref 32, .ref 33, .ref 34, .ref 35, .ref 36, .ref 37, .ref 38, .int 0, .int 0, .int 0, .int 0, .int 0, .int 0, .int 0, .int 0, .int 0, .int 0, .ref 39, .ref 40, .ref 41, .int 0, .int 0, .ref 42, .ref 43, .ref 44, .ref 45, .ref 46, .int 0, .ref 47, .int 0, .int 0, .int 0, .ref 48, .int 0, .int 0, .ref 49, .ref 50, .ref 51, .ref 52]) (v := .int 0) zd209_6 zf209_110 b19 (by decide) (by decide) rfl ?_
    refine z_ej (t := 16) (t2 := 16) zd209_9 rfl (z_b_gex0 (k := 0) (by decide) (show ¬ x1.toInt < 0 from by omega)) ?_
    refine z_e1 (pc1 := 17) (L1 := [some (.ref 19), some (.int x1)]) (S1 := [.int 0]) zd209_16 rfl rfl rfl ?_
    refine z_erz zd209_17 zr209 (by decide) ?_
    show z_ev _ 228 5 [some (.ref 19), some (.int x1), some (.int x2), some (.int x3)] [.int 0] _ _
    refine z_ez (t := 27) (t2 := 27) zd228_5 rfl rfl ?_
    refine z_e1 (pc1 := 28) (L1 := [some (.ref 19), some (.int x1), some (.int x2), some (.int x3)]) (S1 := [.int (-1)]) zd228_27 rfl rfl rfl ?_
    refine z_eri zd228_28 zr228 ?_
    show z_ev _ 0 747 [some (.ref 0), some (.ref 4), some (.ref 19), some (.int 0)] [.int (-1), .int (-1)] _ _
    refine z_ej (t := 1775) (t2 := 1775) zd0_747 rfl rfl ?_
    refine z_e1 (pc1 := 1778) (L1 := [some (.ref 0), some (.ref 4), some (.ref 19), some (.int 6)]) (S1 := []) zd0_1775 rfl rfl rfl ?_
    refine z_e1 (pc1 := 18) (L1 := [some (.ref 0), some (.ref 4), some (.ref 19), some (.int 6)]) (S1 := []) zd0_1778 rfl rfl rfl ?_
    refine z_e1 (pc1 := 19) (L1 := [some (.ref 0), some (.ref 4), some (.ref 19), some (.int 6)]) (S1 := [.int 6]) zd0_18 rfl rfl rfl ?_
    refine z_e1 (pc1 := 20) (L1 := [some (.ref 0), some (.ref 4), some (.ref 19), some (.int 6)]) (S1 := [.ref 0, .int 6]) zd0_19 rfl rfl rfl ?_
    refine z_ealn (y := 6) zd0_20 h0 rfl ?_
    refine z_e1 (pc1 := 23) (L1 := [some (.ref 0), some (.ref 4), some (.ref 19), some (.int 6)]) (S1 := [.int 6, .int 6, .int 6]) zd0_21 rfl rfl rfl ?_
    refine z_e1 (pc1 := 24) (L1 := [some (.ref 0), some (.ref 4), some (.ref 19), some (.int 6)]) (S1 := [.int 0, .int 6]) zd0_23 rfl rfl rfl ?_
    refine z_ej (t := 1781) (t2 := 1781) zd0_24 rfl rfl ?_
    refine z_e1 (pc1 := 1782) (L1 := [some (.ref 0), some (.ref 4), some (.ref 19), some (.int 6)]) (S1 := [.int 1]) zd0_1781 rfl rfl rfl ?_
    refine z_erz zd0_1782 zr0 (by decide) ?_
    exact z_K1i hN hS (by decide) (by decide)
theorem z_C14 {M : zH} {xs : Nat → Int32} {x1 x2 x3 x4 x5 : Int32} (h0 : M[0]? = some (.inl (0, 6, .inl xs))) (hN : M.length = 53) (hS : z_sz M ≤ 50000) (hB : z_fr M 4 53) (g1 : xs 1 = x1) (g2 : xs 2 = x2) (g3 : xs 3 = x3) (g4 : xs 4 = x4) (g5 : xs 5 = x5) : z_ev 2047 0 752 [some (.ref 0), some (.ref 4), some (.ref 19), some (.int 0)] [] M z_K1 := by
  have b4 := z_qO (hB 4 (by decide) (by decide))
  have b19 := z_qO (hB 19 (by decide) (by decide))
  refine z_e1 (pc1 := 753) (L1 := [some (.ref 0), some (.ref 4), some (.ref 19), some (.int 0)]) (S1 := [.ref 4]) zd0_752 rfl rfl rfl ?_
  refine z_e1 (pc1 := 754) (L1 := [some (.ref 0), some (.ref 4), some (.ref 19), some (.int 0)]) (S1 := [.ref 0, .ref 4]) zd0_753 rfl rfl rfl ?_
  refine z_e1 (pc1 := 755) (L1 := [some (.ref 0), some (.ref 4), some (.ref 19), some (.int 0)]) (S1 := [.int 0, .ref 0, .ref 4]) zd0_754 rfl rfl rfl ?_
  refine z_e1 (pc1 := 756) (L1 := [some (.ref 0), some (.ref 4), some (.ref 19), some (.int 0)]) (S1 := [.int 1, .int 0, .ref 0, .ref 4]) zd0_755 rfl rfl rfl ?_
  refine z_e1 (pc1 := 757) (L1 := [some (.ref 0), some (.ref 4), some (.ref 19), some (.int 0)]) (S1 := [.int 1, .ref 0, .ref 4]) zd0_756 rfl rfl rfl ?_
  refine z_eial (y := x1) zd0_757 h0 (by decide) g1 ?_
  refine z_e1 (pc1 := 759) (L1 := [some (.ref 0), some (.ref 4), some (.ref 19), some (.int 0)]) (S1 := [.ref 0, .int x1, .ref 4]) zd0_758 rfl rfl rfl ?_
  refine z_e1 (pc1 := 760) (L1 := [some (.ref 0), some (.ref 4), some (.ref 19), some (.int 0)]) (S1 := [.int 0, .ref 0, .int x1, .ref 4]) zd0_759 rfl rfl rfl ?_
  refine z_e1 (pc1 := 761) (L1 := [some (.ref 0), some (.ref 4), some (.ref 19), some (.int 0)]) (S1 := [.int 2, .int 0, .ref 0, .int x1, .ref 4]) zd0_760 rfl rfl rfl ?_
  refine z_e1 (pc1 := 762) (L1 := [some (.ref 0), some (.ref 4), some (.ref 19), some (.int 0)]) (S1 := [.int 2, .ref 0, .int x1, .ref 4]) zd0_761 rfl rfl rfl ?_
  refine z_eial (y := x2) zd0_762 h0 (by decide) g2 ?_
  refine z_ecV (vs := [.ref 4, .int x1, .int x2]) (r := []) (L2 := [some (.ref 4), some (.int x1), some (.int x2), none]) zd0_763 zcV0_74 (Or.inl rfl) rfl b4 (by decide) rfl rfl rfl (Nat.le_of_ble_eq_true rfl) zm66 (Nat.le_of_ble_eq_true rfl) rfl ?_
  refine z_e1 (pc1 := 1) (L1 := [some (.ref 4), some (.int x1), some (.int x2), none]) (S1 := [.ref 4]) zd66_0 rfl rfl rfl ?_
  refine z_e1 (pc1 := 2) (L1 := [some (.ref 4), some (.int x1), some (.int x2), none]) (S1 := [.int x1, .ref 4]) zd66_1 rfl rfl rfl ?_
  refine z_ecV (vs := [.ref 4, .int x1]) (r := []) (L2 := [some (.ref 4), some (.int x1)]) zd66_2 zcV66_85 (Or.inl rfl) rfl b4 (by decide) rfl rfl rfl (Nat.le_of_ble_eq_true rfl) zm35 (Nat.le_of_ble_eq_true rfl) rfl ?_
  refine z_e1 (pc1 := 1) (L1 := [some (.ref 4), some (.int x1)]) (S1 := [.int x1]) zd35_0 rfl rfl rfl ?_
  by_cases e1 : x1.toInt < 0
  · refine z_ez (t := 12) (t2 := 12) zd35_1 rfl (z_b_ltx1 (k := 0) (by decide) e1) ?_
    refine z_e1 (pc1 := 13) (L1 := [some (.ref 4), some (.int x1)]) (S1 := [.null]) zd35_12 rfl rfl rfl ?_
    refine z_e1 (pc1 := 22) (L1 := [some (.ref 4), some (.int x1)]) (S1 := [.null]) zd35_13 rfl rfl rfl ?_
    refine z_ern zd35_22 zr35 ?_
    show z_ev _ 66 5 [some (.ref 4), some (.int x1), some (.int x2), none] [.null] _ _
    refine z_e1 (pc1 := 6) (L1 := [some (.ref 4), some (.int x1), some (.int x2), some (.null)]) (S1 := []) zd66_5 rfl rfl rfl ?_
    refine z_e1 (pc1 := 7) (L1 := [some (.ref 4), some (.int x1), some (.int x2), some (.null)]) (S1 := [.null]) zd66_6 rfl rfl rfl ?_
    refine z_e1 (pc1 := 21) (L1 := [some (.ref 4), some (.int x1), some (.int x2), some (.null)]) (S1 := []) zd66_7 rfl rfl rfl ?_
    refine z_e1 (pc1 := 22) (L1 := [some (.ref 4), some (.int x1), some (.int x2), some (.null)]) (S1 := [.int (-1)]) zd66_21 rfl rfl rfl ?_
    refine z_eri zd66_22 zr66 ?_
    show z_ev _ 0 766 [some (.ref 0), some (.ref 4), some (.ref 19), some (.int 0)] [.int (-1)] _ _
    refine z_e1 (pc1 := 767) (L1 := [some (.ref 0), some (.ref 4), some (.ref 19), some (.int 0)]) (S1 := [.ref 19, .int (-1)]) zd0_766 rfl rfl rfl ?_
    refine z_e1 (pc1 := 768) (L1 := [some (.ref 0), some (.ref 4), some (.ref 19), some (.int 0)]) (S1 := [.ref 0, .ref 19, .int (-1)]) zd0_767 rfl rfl rfl ?_
    refine z_e1 (pc1 := 769) (L1 := [some (.ref 0), some (.ref 4), some (.ref 19), some (.int 0)]) (S1 := [.int 0, .ref 0, .ref 19, .int (-1)]) zd0_768 rfl rfl rfl ?_
    refine z_e1 (pc1 := 770) (L1 := [some (.ref 0), some (.ref 4), some (.ref 19), some (.int 0)]) (S1 := [.int 1, .int 0, .ref 0, .ref 19, .int (-1)]) zd0_769 rfl rfl rfl ?_
    refine z_e1 (pc1 := 771) (L1 := [some (.ref 0), some (.ref 4), some (.ref 19), some (.int 0)]) (S1 := [.int 1, .ref 0, .ref 19, .int (-1)]) zd0_770 rfl rfl rfl ?_
    refine z_eial (y := x1) zd0_771 h0 (by decide) g1 ?_
    refine z_e1 (pc1 := 773) (L1 := [some (.ref 0), some (.ref 4), some (.ref 19), some (.int 0)]) (S1 := [.ref 0, .int x1, .ref 19, .int (-1)]) zd0_772 rfl rfl rfl ?_
    refine z_e1 (pc1 := 774) (L1 := [some (.ref 0), some (.ref 4), some (.ref 19), some (.int 0)]) (S1 := [.int 0, .ref 0, .int x1, .ref 19, .int (-1)]) zd0_773 rfl rfl rfl ?_
    refine z_e1 (pc1 := 775) (L1 := [some (.ref 0), some (.ref 4), some (.ref 19), some (.int 0)]) (S1 := [.int 2, .int 0, .ref 0, .int x1, .ref 19, .int (-1)]) zd0_774 rfl rfl rfl ?_
    refine z_e1 (pc1 := 776) (L1 := [some (.ref 0), some (.ref 4), some (.ref 19), some (.int 0)]) (S1 := [.int 2, .ref 0, .int x1, .ref 19, .int (-1)]) zd0_775 rfl rfl rfl ?_
    refine z_eial (y := x2) zd0_776 h0 (by decide) g2 ?_
    refine z_ecV (vs := [.ref 19, .int x1, .int x2]) (r := [.int (-1)]) (L2 := [some (.ref 19), some (.int x1), some (.int x2)]) zd0_777 zcV0_77 (Or.inl rfl) rfl b19 (by decide) rfl rfl rfl (Nat.le_of_ble_eq_true rfl) zm231 (Nat.le_of_ble_eq_true rfl) rfl ?_
    refine z_e1 (pc1 := 1) (L1 := [some (.ref 19), some (.int x1), some (.int x2)]) (S1 := [.ref 19]) zd231_0 rfl rfl rfl ?_
    refine z_e1 (pc1 := 2) (L1 := [some (.ref 19), some (.int x1), some (.int x2)]) (S1 := [.int x1, .ref 19]) zd231_1 rfl rfl rfl ?_
    refine z_ecV (vs := [.ref 19, .int x1]) (r := []) (L2 := [some (.ref 19), some (.int x1)]) zd231_2 zcV231_209 (Or.inl rfl) rfl b19 (by decide) rfl rfl rfl (Nat.le_of_ble_eq_true rfl) zm209 (Nat.le_of_ble_eq_true rfl) rfl ?_
    refine z_e1 (pc1 := 1) (L1 := [some (.ref 19), some (.int x1)]) (S1 := [.int x1]) zd209_0 rfl rfl rfl ?_
    refine z_ez (t := 16) (t2 := 16) zd209_1 rfl (z_b_ltx1 (k := 0) (by decide) (show x1.toInt < 0 from by omega)) ?_
    refine z_e1 (pc1 := 17) (L1 := [some (.ref 19), some (.int x1)]) (S1 := [.int 0]) zd209_16 rfl rfl rfl ?_
    refine z_erz zd209_17 zr209 (by decide) ?_
    show z_ev _ 231 5 [some (.ref 19), some (.int x1), some (.int x2)] [.int 0] _ _
    refine z_ez (t := 17) (t2 := 17) zd231_5 rfl rfl ?_
    refine z_e1 (pc1 := 18) (L1 := [some (.ref 19), some (.int x1), some (.int x2)]) (S1 := [.int (-1)]) zd231_17 rfl rfl rfl ?_
    refine z_eri zd231_18 zr231 ?_
    show z_ev _ 0 780 [some (.ref 0), some (.ref 4), some (.ref 19), some (.int 0)] [.int (-1), .int (-1)] _ _
    refine z_ej (t := 1775) (t2 := 1775) zd0_780 rfl rfl ?_
    refine z_e1 (pc1 := 1778) (L1 := [some (.ref 0), some (.ref 4), some (.ref 19), some (.int 6)]) (S1 := []) zd0_1775 rfl rfl rfl ?_
    refine z_e1 (pc1 := 18) (L1 := [some (.ref 0), some (.ref 4), some (.ref 19), some (.int 6)]) (S1 := []) zd0_1778 rfl rfl rfl ?_
    refine z_e1 (pc1 := 19) (L1 := [some (.ref 0), some (.ref 4), some (.ref 19), some (.int 6)]) (S1 := [.int 6]) zd0_18 rfl rfl rfl ?_
    refine z_e1 (pc1 := 20) (L1 := [some (.ref 0), some (.ref 4), some (.ref 19), some (.int 6)]) (S1 := [.ref 0, .int 6]) zd0_19 rfl rfl rfl ?_
    refine z_ealn (y := 6) zd0_20 h0 rfl ?_
    refine z_e1 (pc1 := 23) (L1 := [some (.ref 0), some (.ref 4), some (.ref 19), some (.int 6)]) (S1 := [.int 6, .int 6, .int 6]) zd0_21 rfl rfl rfl ?_
    refine z_e1 (pc1 := 24) (L1 := [some (.ref 0), some (.ref 4), some (.ref 19), some (.int 6)]) (S1 := [.int 0, .int 6]) zd0_23 rfl rfl rfl ?_
    refine z_ej (t := 1781) (t2 := 1781) zd0_24 rfl rfl ?_
    refine z_e1 (pc1 := 1782) (L1 := [some (.ref 0), some (.ref 4), some (.ref 19), some (.int 6)]) (S1 := [.int 1]) zd0_1781 rfl rfl rfl ?_
    refine z_erz zd0_1782 zr0 (by decide) ?_
    exact z_K1i hN hS (by decide) (by decide)
  · refine z_ez (t := 12) (t2 := 4) zd35_1 rfl (z_b_ltx0 (k := 0) (by decide) e1) ?_
    refine z_e1 (pc1 := 5) (L1 := [some (.ref 4), some (.int x1)]) (S1 := [.int x1]) zd35_4 rfl rfl rfl ?_
    refine z_e1 (pc1 := 6) (L1 := [some (.ref 4), some (.int x1)]) (S1 := [.ref 4, .int x1]) zd35_5 rfl rfl rfl ?_
    refine z_egf (fs := [.ref 5, .ref 10, .ref 11, .int 0, .ref 12, .int 0, .ref 13, .ref 14, .ref 15, .ref 16, .ref 17, .ref 18, .null]) (v := .int 0) zd35_6 zf35_59 b4 (by decide) (by decide) rfl ?_
    refine z_ej (t := 16) (t2 := 12) zd35_9 rfl (z_b_ltx0 (k := 0) (by decide) (show ¬ x1.toInt < 0 from by omega)) ?_
    refine z_e1 (pc1 := 13) (L1 := [some (.ref 4), some (.int x1)]) (S1 := [.null]) zd35_12 rfl rfl rfl ?_
    refine z_e1 (pc1 := 22) (L1 := [some (.ref 4), some (.int x1)]) (S1 := [.null]) zd35_13 rfl rfl rfl ?_
    refine z_ern zd35_22 zr35 ?_
    show z_ev _ 66 5 [some (.ref 4), some (.int x1), some (.int x2), none] [.null] _ _
    refine z_e1 (pc1 := 6) (L1 := [some (.ref 4), some (.int x1), some (.int x2), some (.null)]) (S1 := []) zd66_5 rfl rfl rfl ?_
    refine z_e1 (pc1 := 7) (L1 := [some (.ref 4), some (.int x1), some (.int x2), some (.null)]) (S1 := [.null]) zd66_6 rfl rfl rfl ?_
    refine z_e1 (pc1 := 21) (L1 := [some (.ref 4), some (.int x1), some (.int x2), some (.null)]) (S1 := []) zd66_7 rfl rfl rfl ?_
    refine z_e1 (pc1 := 22) (L1 := [some (.ref 4), some (.int x1), some (.int x2), some (.null)]) (S1 := [.int (-1)]) zd66_21 rfl rfl rfl ?_
    refine z_eri zd66_22 zr66 ?_
    show z_ev _ 0 766 [some (.ref 0), some (.ref 4), some (.ref 19), some (.int 0)] [.int (-1)] _ _
    refine z_e1 (pc1 := 767) (L1 := [some (.ref 0), some (.ref 4), some (.ref 19), some (.int 0)]) (S1 := [.ref 19, .int (-1)]) zd0_766 rfl rfl rfl ?_
    refine z_e1 (pc1 := 768) (L1 := [some (.ref 0), some (.ref 4), some (.ref 19), some (.int 0)]) (S1 := [.ref 0, .ref 19, .int (-1)]) zd0_767 rfl rfl rfl ?_
    refine z_e1 (pc1 := 769) (L1 := [some (.ref 0), some (.ref 4), some (.ref 19), some (.int 0)]) (S1 := [.int 0, .ref 0, .ref 19, .int (-1)]) zd0_768 rfl rfl rfl ?_
    refine z_e1 (pc1 := 770) (L1 := [some (.ref 0), some (.ref 4), some (.ref 19), some (.int 0)]) (S1 := [.int 1, .int 0, .ref 0, .ref 19, .int (-1)]) zd0_769 rfl rfl rfl ?_
    refine z_e1 (pc1 := 771) (L1 := [some (.ref 0), some (.ref 4), some (.ref 19), some (.int 0)]) (S1 := [.int 1, .ref 0, .ref 19, .int (-1)]) zd0_770 rfl rfl rfl ?_
    refine z_eial (y := x1) zd0_771 h0 (by decide) g1 ?_
    refine z_e1 (pc1 := 773) (L1 := [some (.ref 0), some (.ref 4), some (.ref 19), some (.int 0)]) (S1 := [.ref 0, .int x1, .ref 19, .int (-1)]) zd0_772 rfl rfl rfl ?_
    refine z_e1 (pc1 := 774) (L1 := [some (.ref 0), some (.ref 4), some (.ref 19), some (.int 0)]) (S1 := [.int 0, .ref 0, .int x1, .ref 19, .int (-1)]) zd0_773 rfl rfl rfl ?_
    refine z_e1 (pc1 := 775) (L1 := [some (.ref 0), some (.ref 4), some (.ref 19), some (.int 0)]) (S1 := [.int 2, .int 0, .ref 0, .int x1, .ref 19, .int (-1)]) zd0_774 rfl rfl rfl ?_
    refine z_e1 (pc1 := 776) (L1 := [some (.ref 0), some (.ref 4), some (.ref 19), some (.int 0)]) (S1 := [.int 2, .ref 0, .int x1, .ref 19, .int (-1)]) zd0_775 rfl rfl rfl ?_
    refine z_eial (y := x2) zd0_776 h0 (by decide) g2 ?_
    refine z_ecV (vs := [.ref 19, .int x1, .int x2]) (r := [.int (-1)]) (L2 := [some (.ref 19), some (.int x1), some (.int x2)]) zd0_777 zcV0_77 (Or.inl rfl) rfl b19 (by decide) rfl rfl rfl (Nat.le_of_ble_eq_true rfl) zm231 (Nat.le_of_ble_eq_true rfl) rfl ?_
    refine z_e1 (pc1 := 1) (L1 := [some (.ref 19), some (.int x1), some (.int x2)]) (S1 := [.ref 19]) zd231_0 rfl rfl rfl ?_
    refine z_e1 (pc1 := 2) (L1 := [some (.ref 19), some (.int x1), some (.int x2)]) (S1 := [.int x1, .ref 19]) zd231_1 rfl rfl rfl ?_
    refine z_ecV (vs := [.ref 19, .int x1]) (r := []) (L2 := [some (.ref 19), some (.int x1)]) zd231_2 zcV231_209 (Or.inl rfl) rfl b19 (by decide) rfl rfl rfl (Nat.le_of_ble_eq_true rfl) zm209 (Nat.le_of_ble_eq_true rfl) rfl ?_
    refine z_e1 (pc1 := 1) (L1 := [some (.ref 19), some (.int x1)]) (S1 := [.int x1]) zd209_0 rfl rfl rfl ?_
    refine z_ez (t := 16) (t2 := 4) zd209_1 rfl (z_b_ltx0 (k := 0) (by decide) (show ¬ x1.toInt < 0 from by omega)) ?_
    refine z_e1 (pc1 := 5) (L1 := [some (.ref 19), some (.int x1)]) (S1 := [.int x1]) zd209_4 rfl rfl rfl ?_
    refine z_e1 (pc1 := 6) (L1 := [some (.ref 19), some (.int x1)]) (S1 := [.ref 19, .int x1]) zd209_5 rfl rfl rfl ?_
    refine z_egf (fs := [.ref 20, .int 0, .ref 21, .ref 22, .ref 23, .ref 24, .ref 25, .ref 26, .ref 27, .ref 28, .ref 29, .ref 30, .ref 31, .int 0, .ref 32, .ref 33, .ref 34, .ref 35, .ref 36, .ref 37, .ref 38, .int 0, .int 0, .int 0, .int 0, .int 0, .int 0, .int 0, .int 0, .int 0, .int 0, .ref 39, .ref 40, .ref 41, .int 0, .int 0, .ref 42, .ref 43, .ref 44, .ref 45, .ref 46, .int 0, .ref 47, .int 0, .int 0, .int 0, .ref 48, .int 0, .int 0, .ref 49, .ref 50, .ref 51, .ref 52]) (v := .int 0) zd209_6 zf209_110 b19 (by decide) (by decide) rfl ?_
    refine z_ej (t := 16) (t2 := 16) zd209_9 rfl (z_b_gex0 (k := 0) (by decide) (show ¬ x1.toInt < 0 from by omega)) ?_
    refine z_e1 (pc1 := 17) (L1 := [some (.ref 19), some (.int x1)]) (S1 := [.int 0]) zd209_16 rfl rfl rfl ?_
    refine z_erz zd209_17 zr209 (by decide) ?_
    show z_ev _ 231 5 [some (.ref 19), some (.int x1), some (.int x2)] [.int 0] _ _
    refine z_ez (t := 17) (t2 := 17) zd231_5 rfl rfl ?_
    refine z_e1 (pc1 := 18) (L1 := [some (.ref 19), some (.int x1), some (.int x2)]) (S1 := [.int (-1)]) zd231_17 rfl rfl rfl ?_
    refine z_eri zd231_18 zr231 ?_
    show z_ev _ 0 780 [some (.ref 0), some (.ref 4), some (.ref 19), some (.int 0)] [.int (-1), .int (-1)] _ _
    refine z_ej (t := 1775) (t2 := 1775) zd0_780 rfl rfl ?_
    refine z_e1 (pc1 := 1778) (L1 := [some (.ref 0), some (.ref 4), some (.ref 19), some (.int 6)]) (S1 := []) zd0_1775 rfl rfl rfl ?_
    refine z_e1 (pc1 := 18) (L1 := [some (.ref 0), some (.ref 4), some (.ref 19), some (.int 6)]) (S1 := []) zd0_1778 rfl rfl rfl ?_
    refine z_e1 (pc1 := 19) (L1 := [some (.ref 0), some (.ref 4), some (.ref 19), some (.int 6)]) (S1 := [.int 6]) zd0_18 rfl rfl rfl ?_
    refine z_e1 (pc1 := 20) (L1 := [some (.ref 0), some (.ref 4), some (.ref 19), some (.int 6)]) (S1 := [.ref 0, .int 6]) zd0_19 rfl rfl rfl ?_
    refine z_ealn (y := 6) zd0_20 h0 rfl ?_
    refine z_e1 (pc1 := 23) (L1 := [some (.ref 0), some (.ref 4), some (.ref 19), some (.int 6)]) (S1 := [.int 6, .int 6, .int 6]) zd0_21 rfl rfl rfl ?_
    refine z_e1 (pc1 := 24) (L1 := [some (.ref 0), some (.ref 4), some (.ref 19), some (.int 6)]) (S1 := [.int 0, .int 6]) zd0_23 rfl rfl rfl ?_
    refine z_ej (t := 1781) (t2 := 1781) zd0_24 rfl rfl ?_
    refine z_e1 (pc1 := 1782) (L1 := [some (.ref 0), some (.ref 4), some (.ref 19), some (.int 6)]) (S1 := [.int 1]) zd0_1781 rfl rfl rfl ?_
    refine z_erz zd0_1782 zr0 (by decide) ?_
    exact z_K1i hN hS (by decide) (by decide)
theorem z_C15 {M : zH} {xs : Nat → Int32} {x1 x2 x3 x4 x5 : Int32} (h0 : M[0]? = some (.inl (0, 6, .inl xs))) (hN : M.length = 53) (hS : z_sz M ≤ 50000) (hB : z_fr M 4 53) (g1 : xs 1 = x1) (g2 : xs 2 = x2) (g3 : xs 3 = x3) (g4 : xs 4 = x4) (g5 : xs 5 = x5) : z_ev 2047 0 785 [some (.ref 0), some (.ref 4), some (.ref 19), some (.int 0)] [] M z_K1 := by
  have b4 := z_qO (hB 4 (by decide) (by decide))
  have b19 := z_qO (hB 19 (by decide) (by decide))
  refine z_e1 (pc1 := 786) (L1 := [some (.ref 0), some (.ref 4), some (.ref 19), some (.int 0)]) (S1 := [.ref 4]) zd0_785 rfl rfl rfl ?_
  refine z_e1 (pc1 := 787) (L1 := [some (.ref 0), some (.ref 4), some (.ref 19), some (.int 0)]) (S1 := [.ref 0, .ref 4]) zd0_786 rfl rfl rfl ?_
  refine z_e1 (pc1 := 788) (L1 := [some (.ref 0), some (.ref 4), some (.ref 19), some (.int 0)]) (S1 := [.int 0, .ref 0, .ref 4]) zd0_787 rfl rfl rfl ?_
  refine z_e1 (pc1 := 789) (L1 := [some (.ref 0), some (.ref 4), some (.ref 19), some (.int 0)]) (S1 := [.int 1, .int 0, .ref 0, .ref 4]) zd0_788 rfl rfl rfl ?_
  refine z_e1 (pc1 := 790) (L1 := [some (.ref 0), some (.ref 4), some (.ref 19), some (.int 0)]) (S1 := [.int 1, .ref 0, .ref 4]) zd0_789 rfl rfl rfl ?_
  refine z_eial (y := x1) zd0_790 h0 (by decide) g1 ?_
  refine z_e1 (pc1 := 792) (L1 := [some (.ref 0), some (.ref 4), some (.ref 19), some (.int 0)]) (S1 := [.ref 0, .int x1, .ref 4]) zd0_791 rfl rfl rfl ?_
  refine z_e1 (pc1 := 793) (L1 := [some (.ref 0), some (.ref 4), some (.ref 19), some (.int 0)]) (S1 := [.int 0, .ref 0, .int x1, .ref 4]) zd0_792 rfl rfl rfl ?_
  refine z_e1 (pc1 := 794) (L1 := [some (.ref 0), some (.ref 4), some (.ref 19), some (.int 0)]) (S1 := [.int 2, .int 0, .ref 0, .int x1, .ref 4]) zd0_793 rfl rfl rfl ?_
  refine z_e1 (pc1 := 795) (L1 := [some (.ref 0), some (.ref 4), some (.ref 19), some (.int 0)]) (S1 := [.int 2, .ref 0, .int x1, .ref 4]) zd0_794 rfl rfl rfl ?_
  refine z_eial (y := x2) zd0_795 h0 (by decide) g2 ?_
  refine z_ecV (vs := [.ref 4, .int x1, .int x2]) (r := []) (L2 := [some (.ref 4), some (.int x1), some (.int x2), none]) zd0_796 zcV0_78 (Or.inl rfl) rfl b4 (by decide) rfl rfl rfl (Nat.le_of_ble_eq_true rfl) zm68 (Nat.le_of_ble_eq_true rfl) rfl ?_
  refine z_e1 (pc1 := 1) (L1 := [some (.ref 4), some (.int x1), some (.int x2), none]) (S1 := [.ref 4]) zd68_0 rfl rfl rfl ?_
  refine z_e1 (pc1 := 2) (L1 := [some (.ref 4), some (.int x1), some (.int x2), none]) (S1 := [.int x1, .ref 4]) zd68_1 rfl rfl rfl ?_
  refine z_ecV (vs := [.ref 4, .int x1]) (r := []) (L2 := [some (.ref 4), some (.int x1)]) zd68_2 zcV68_85 (Or.inl rfl) rfl b4 (by decide) rfl rfl rfl (Nat.le_of_ble_eq_true rfl) zm35 (Nat.le_of_ble_eq_true rfl) rfl ?_
  refine z_e1 (pc1 := 1) (L1 := [some (.ref 4), some (.int x1)]) (S1 := [.int x1]) zd35_0 rfl rfl rfl ?_
  by_cases e1 : x1.toInt < 0
  · refine z_ez (t := 12) (t2 := 12) zd35_1 rfl (z_b_ltx1 (k := 0) (by decide) e1) ?_
    refine z_e1 (pc1 := 13) (L1 := [some (.ref 4), some (.int x1)]) (S1 := [.null]) zd35_12 rfl rfl rfl ?_
    refine z_e1 (pc1 := 22) (L1 := [some (.ref 4), some (.int x1)]) (S1 := [.null]) zd35_13 rfl rfl rfl ?_
    refine z_ern zd35_22 zr35 ?_
    show z_ev _ 68 5 [some (.ref 4), some (.int x1), some (.int x2), none] [.null] _ _
    refine z_e1 (pc1 := 6) (L1 := [some (.ref 4), some (.int x1), some (.int x2), some (.null)]) (S1 := []) zd68_5 rfl rfl rfl ?_
    refine z_e1 (pc1 := 7) (L1 := [some (.ref 4), some (.int x1), some (.int x2), some (.null)]) (S1 := [.null]) zd68_6 rfl rfl rfl ?_
    refine z_e1 (pc1 := 15) (L1 := [some (.ref 4), some (.int x1), some (.int x2), some (.null)]) (S1 := []) zd68_7 rfl rfl rfl ?_
    refine z_e1 (pc1 := 16) (L1 := [some (.ref 4), some (.int x1), some (.int x2), some (.null)]) (S1 := [.int (-1)]) zd68_15 rfl rfl rfl ?_
    refine z_eri zd68_16 zr68 ?_
    show z_ev _ 0 799 [some (.ref 0), some (.ref 4), some (.ref 19), some (.int 0)] [.int (-1)] _ _
    refine z_e1 (pc1 := 800) (L1 := [some (.ref 0), some (.ref 4), some (.ref 19), some (.int 0)]) (S1 := [.ref 19, .int (-1)]) zd0_799 rfl rfl rfl ?_
    refine z_e1 (pc1 := 801) (L1 := [some (.ref 0), some (.ref 4), some (.ref 19), some (.int 0)]) (S1 := [.ref 0, .ref 19, .int (-1)]) zd0_800 rfl rfl rfl ?_
    refine z_e1 (pc1 := 802) (L1 := [some (.ref 0), some (.ref 4), some (.ref 19), some (.int 0)]) (S1 := [.int 0, .ref 0, .ref 19, .int (-1)]) zd0_801 rfl rfl rfl ?_
    refine z_e1 (pc1 := 803) (L1 := [some (.ref 0), some (.ref 4), some (.ref 19), some (.int 0)]) (S1 := [.int 1, .int 0, .ref 0, .ref 19, .int (-1)]) zd0_802 rfl rfl rfl ?_
    refine z_e1 (pc1 := 804) (L1 := [some (.ref 0), some (.ref 4), some (.ref 19), some (.int 0)]) (S1 := [.int 1, .ref 0, .ref 19, .int (-1)]) zd0_803 rfl rfl rfl ?_
    refine z_eial (y := x1) zd0_804 h0 (by decide) g1 ?_
    refine z_e1 (pc1 := 806) (L1 := [some (.ref 0), some (.ref 4), some (.ref 19), some (.int 0)]) (S1 := [.ref 0, .int x1, .ref 19, .int (-1)]) zd0_805 rfl rfl rfl ?_
    refine z_e1 (pc1 := 807) (L1 := [some (.ref 0), some (.ref 4), some (.ref 19), some (.int 0)]) (S1 := [.int 0, .ref 0, .int x1, .ref 19, .int (-1)]) zd0_806 rfl rfl rfl ?_
    refine z_e1 (pc1 := 808) (L1 := [some (.ref 0), some (.ref 4), some (.ref 19), some (.int 0)]) (S1 := [.int 2, .int 0, .ref 0, .int x1, .ref 19, .int (-1)]) zd0_807 rfl rfl rfl ?_
    refine z_e1 (pc1 := 809) (L1 := [some (.ref 0), some (.ref 4), some (.ref 19), some (.int 0)]) (S1 := [.int 2, .ref 0, .int x1, .ref 19, .int (-1)]) zd0_808 rfl rfl rfl ?_
    refine z_eial (y := x2) zd0_809 h0 (by decide) g2 ?_
    refine z_ecV (vs := [.ref 19, .int x1, .int x2]) (r := [.int (-1)]) (L2 := [some (.ref 19), some (.int x1), some (.int x2), none, none, none, none]) zd0_810 zcV0_81 (Or.inl rfl) rfl b19 (by decide) rfl rfl rfl (Nat.le_of_ble_eq_true rfl) zm233 (Nat.le_of_ble_eq_true rfl) rfl ?_
    refine z_e1 (pc1 := 1) (L1 := [some (.ref 19), some (.int x1), some (.int x2), none, none, none, none]) (S1 := [.ref 19]) zd233_0 rfl rfl rfl ?_
    refine z_e1 (pc1 := 2) (L1 := [some (.ref 19), some (.int x1), some (.int x2), none, none, none, none]) (S1 := [.int x1, .ref 19]) zd233_1 rfl rfl rfl ?_
    refine z_ecV (vs := [.ref 19, .int x1]) (r := []) (L2 := [some (.ref 19), some (.int x1)]) zd233_2 zcV233_209 (Or.inl rfl) rfl b19 (by decide) rfl rfl rfl (Nat.le_of_ble_eq_true rfl) zm209 (Nat.le_of_ble_eq_true rfl) rfl ?_
    refine z_e1 (pc1 := 1) (L1 := [some (.ref 19), some (.int x1)]) (S1 := [.int x1]) zd209_0 rfl rfl rfl ?_
    refine z_ez (t := 16) (t2 := 16) zd209_1 rfl (z_b_ltx1 (k := 0) (by decide) (show x1.toInt < 0 from by omega)) ?_
    refine z_e1 (pc1 := 17) (L1 := [some (.ref 19), some (.int x1)]) (S1 := [.int 0]) zd209_16 rfl rfl rfl ?_
    refine z_erz zd209_17 zr209 (by decide) ?_
    show z_ev _ 233 5 [some (.ref 19), some (.int x1), some (.int x2), none, none, none, none] [.int 0] _ _
    refine z_ez (t := 13) (t2 := 13) zd233_5 rfl rfl ?_
    refine z_e1 (pc1 := 14) (L1 := [some (.ref 19), some (.int x1), some (.int x2), none, none, none, none]) (S1 := [.int (-1)]) zd233_13 rfl rfl rfl ?_
    refine z_eri zd233_14 zr233 ?_
    show z_ev _ 0 813 [some (.ref 0), some (.ref 4), some (.ref 19), some (.int 0)] [.int (-1), .int (-1)] _ _
    refine z_ej (t := 1775) (t2 := 1775) zd0_813 rfl rfl ?_
    refine z_e1 (pc1 := 1778) (L1 := [some (.ref 0), some (.ref 4), some (.ref 19), some (.int 6)]) (S1 := []) zd0_1775 rfl rfl rfl ?_
    refine z_e1 (pc1 := 18) (L1 := [some (.ref 0), some (.ref 4), some (.ref 19), some (.int 6)]) (S1 := []) zd0_1778 rfl rfl rfl ?_
    refine z_e1 (pc1 := 19) (L1 := [some (.ref 0), some (.ref 4), some (.ref 19), some (.int 6)]) (S1 := [.int 6]) zd0_18 rfl rfl rfl ?_
    refine z_e1 (pc1 := 20) (L1 := [some (.ref 0), some (.ref 4), some (.ref 19), some (.int 6)]) (S1 := [.ref 0, .int 6]) zd0_19 rfl rfl rfl ?_
    refine z_ealn (y := 6) zd0_20 h0 rfl ?_
    refine z_e1 (pc1 := 23) (L1 := [some (.ref 0), some (.ref 4), some (.ref 19), some (.int 6)]) (S1 := [.int 6, .int 6, .int 6]) zd0_21 rfl rfl rfl ?_
    refine z_e1 (pc1 := 24) (L1 := [some (.ref 0), some (.ref 4), some (.ref 19), some (.int 6)]) (S1 := [.int 0, .int 6]) zd0_23 rfl rfl rfl ?_
    refine z_ej (t := 1781) (t2 := 1781) zd0_24 rfl rfl ?_
    refine z_e1 (pc1 := 1782) (L1 := [some (.ref 0), some (.ref 4), some (.ref 19), some (.int 6)]) (S1 := [.int 1]) zd0_1781 rfl rfl rfl ?_
    refine z_erz zd0_1782 zr0 (by decide) ?_
    exact z_K1i hN hS (by decide) (by decide)
  · refine z_ez (t := 12) (t2 := 4) zd35_1 rfl (z_b_ltx0 (k := 0) (by decide) e1) ?_
    refine z_e1 (pc1 := 5) (L1 := [some (.ref 4), some (.int x1)]) (S1 := [.int x1]) zd35_4 rfl rfl rfl ?_
    refine z_e1 (pc1 := 6) (L1 := [some (.ref 4), some (.int x1)]) (S1 := [.ref 4, .int x1]) zd35_5 rfl rfl rfl ?_
    refine z_egf (fs := [.ref 5, .ref 10, .ref 11, .int 0, .ref 12, .int 0, .ref 13, .ref 14, .ref 15, .ref 16, .ref 17, .ref 18, .null]) (v := .int 0) zd35_6 zf35_59 b4 (by decide) (by decide) rfl ?_
    refine z_ej (t := 16) (t2 := 12) zd35_9 rfl (z_b_ltx0 (k := 0) (by decide) (show ¬ x1.toInt < 0 from by omega)) ?_
    refine z_e1 (pc1 := 13) (L1 := [some (.ref 4), some (.int x1)]) (S1 := [.null]) zd35_12 rfl rfl rfl ?_
    refine z_e1 (pc1 := 22) (L1 := [some (.ref 4), some (.int x1)]) (S1 := [.null]) zd35_13 rfl rfl rfl ?_
    refine z_ern zd35_22 zr35 ?_
    show z_ev _ 68 5 [some (.ref 4), some (.int x1), some (.int x2), none] [.null] _ _
    refine z_e1 (pc1 := 6) (L1 := [some (.ref 4), some (.int x1), some (.int x2), some (.null)]) (S1 := []) zd68_5 rfl rfl rfl ?_
    refine z_e1 (pc1 := 7) (L1 := [some (.ref 4), some (.int x1), some (.int x2), some (.null)]) (S1 := [.null]) zd68_6 rfl rfl rfl ?_
    refine z_e1 (pc1 := 15) (L1 := [some (.ref 4), some (.int x1), some (.int x2), some (.null)]) (S1 := []) zd68_7 rfl rfl rfl ?_
    refine z_e1 (pc1 := 16) (L1 := [some (.ref 4), some (.int x1), some (.int x2), some (.null)]) (S1 := [.int (-1)]) zd68_15 rfl rfl rfl ?_
    refine z_eri zd68_16 zr68 ?_
    show z_ev _ 0 799 [some (.ref 0), some (.ref 4), some (.ref 19), some (.int 0)] [.int (-1)] _ _
    refine z_e1 (pc1 := 800) (L1 := [some (.ref 0), some (.ref 4), some (.ref 19), some (.int 0)]) (S1 := [.ref 19, .int (-1)]) zd0_799 rfl rfl rfl ?_
    refine z_e1 (pc1 := 801) (L1 := [some (.ref 0), some (.ref 4), some (.ref 19), some (.int 0)]) (S1 := [.ref 0, .ref 19, .int (-1)]) zd0_800 rfl rfl rfl ?_
    refine z_e1 (pc1 := 802) (L1 := [some (.ref 0), some (.ref 4), some (.ref 19), some (.int 0)]) (S1 := [.int 0, .ref 0, .ref 19, .int (-1)]) zd0_801 rfl rfl rfl ?_
    refine z_e1 (pc1 := 803) (L1 := [some (.ref 0), some (.ref 4), some (.ref 19), some (.int 0)]) (S1 := [.int 1, .int 0, .ref 0, .ref 19, .int (-1)]) zd0_802 rfl rfl rfl ?_
    refine z_e1 (pc1 := 804) (L1 := [some (.ref 0), some (.ref 4), some (.ref 19), some (.int 0)]) (S1 := [.int 1, .ref 0, .ref 19, .int (-1)]) zd0_803 rfl rfl rfl ?_
    refine z_eial (y := x1) zd0_804 h0 (by decide) g1 ?_
    refine z_e1 (pc1 := 806) (L1 := [some (.ref 0), some (.ref 4), some (.ref 19), some (.int 0)]) (S1 := [.ref 0, .int x1, .ref 19, .int (-1)]) zd0_805 rfl rfl rfl ?_
    refine z_e1 (pc1 := 807) (L1 := [some (.ref 0), some (.ref 4), some (.ref 19), some (.int 0)]) (S1 := [.int 0, .ref 0, .int x1, .ref 19, .int (-1)]) zd0_806 rfl rfl rfl ?_
    refine z_e1 (pc1 := 808) (L1 := [some (.ref 0), some (.ref 4), some (.ref 19), some (.int 0)]) (S1 := [.int 2, .int 0, .ref 0, .int x1, .ref 19, .int (-1)]) zd0_807 rfl rfl rfl ?_
    refine z_e1 (pc1 := 809) (L1 := [some (.ref 0), some (.ref 4), some (.ref 19), some (.int 0)]) (S1 := [.int 2, .ref 0, .int x1, .ref 19, .int (-1)]) zd0_808 rfl rfl rfl ?_
    refine z_eial (y := x2) zd0_809 h0 (by decide) g2 ?_
    refine z_ecV (vs := [.ref 19, .int x1, .int x2]) (r := [.int (-1)]) (L2 := [some (.ref 19), some (.int x1), some (.int x2), none, none, none, none]) zd0_810 zcV0_81 (Or.inl rfl) rfl b19 (by decide) rfl rfl rfl (Nat.le_of_ble_eq_true rfl) zm233 (Nat.le_of_ble_eq_true rfl) rfl ?_
    refine z_e1 (pc1 := 1) (L1 := [some (.ref 19), some (.int x1), some (.int x2), none, none, none, none]) (S1 := [.ref 19]) zd233_0 rfl rfl rfl ?_
    refine z_e1 (pc1 := 2) (L1 := [some (.ref 19), some (.int x1), some (.int x2), none, none, none, none]) (S1 := [.int x1, .ref 19]) zd233_1 rfl rfl rfl ?_
    refine z_ecV (vs := [.ref 19, .int x1]) (r := []) (L2 := [some (.ref 19), some (.int x1)]) zd233_2 zcV233_209 (Or.inl rfl) rfl b19 (by decide) rfl rfl rfl (Nat.le_of_ble_eq_true rfl) zm209 (Nat.le_of_ble_eq_true rfl) rfl ?_
    refine z_e1 (pc1 := 1) (L1 := [some (.ref 19), some (.int x1)]) (S1 := [.int x1]) zd209_0 rfl rfl rfl ?_
    refine z_ez (t := 16) (t2 := 4) zd209_1 rfl (z_b_ltx0 (k := 0) (by decide) (show ¬ x1.toInt < 0 from by omega)) ?_
    refine z_e1 (pc1 := 5) (L1 := [some (.ref 19), some (.int x1)]) (S1 := [.int x1]) zd209_4 rfl rfl rfl ?_
    refine z_e1 (pc1 := 6) (L1 := [some (.ref 19), some (.int x1)]) (S1 := [.ref 19, .int x1]) zd209_5 rfl rfl rfl ?_
    refine z_egf (fs := [.ref 20, .int 0, .ref 21, .ref 22, .ref 23, .ref 24, .ref 25, .ref 26, .ref 27, .ref 28, .ref 29, .ref 30, .ref 31, .int 0, .ref 32, .ref 33, .ref 34, .ref 35, .ref 36, .ref 37, .ref 38, .int 0, .int 0, .int 0, .int 0, .int 0, .int 0, .int 0, .int 0, .int 0, .int 0, .ref 39, .ref 40, .ref 41, .int 0, .int 0, .ref 42, .ref 43, .ref 44, .ref 45, .ref 46, .int 0, .ref 47, .int 0, .int 0, .int 0, .ref 48, .int 0, .int 0, .ref 49, .ref 50, .ref 51, .ref 52]) (v := .int 0) zd209_6 zf209_110 b19 (by decide) (by decide) rfl ?_
    refine z_ej (t := 16) (t2 := 16) zd209_9 rfl (z_b_gex0 (k := 0) (by decide) (show ¬ x1.toInt < 0 from by omega)) ?_
    refine z_e1 (pc1 := 17) (L1 := [some (.ref 19), some (.int x1)]) (S1 := [.int 0]) zd209_16 rfl rfl rfl ?_
    refine z_erz zd209_17 zr209 (by decide) ?_
    show z_ev _ 233 5 [some (.ref 19), some (.int x1), some (.int x2), none, none, none, none] [.int 0] _ _
    refine z_ez (t := 13) (t2 := 13) zd233_5 rfl rfl ?_
    refine z_e1 (pc1 := 14) (L1 := [some (.ref 19), some (.int x1), some (.int x2), none, none, none, none]) (S1 := [.int (-1)]) zd233_13 rfl rfl rfl ?_
    refine z_eri zd233_14 zr233 ?_
    show z_ev _ 0 813 [some (.ref 0), some (.ref 4), some (.ref 19), some (.int 0)] [.int (-1), .int (-1)] _ _
    refine z_ej (t := 1775) (t2 := 1775) zd0_813 rfl rfl ?_
    refine z_e1 (pc1 := 1778) (L1 := [some (.ref 0), some (.ref 4), some (.ref 19), some (.int 6)]) (S1 := []) zd0_1775 rfl rfl rfl ?_
    refine z_e1 (pc1 := 18) (L1 := [some (.ref 0), some (.ref 4), some (.ref 19), some (.int 6)]) (S1 := []) zd0_1778 rfl rfl rfl ?_
    refine z_e1 (pc1 := 19) (L1 := [some (.ref 0), some (.ref 4), some (.ref 19), some (.int 6)]) (S1 := [.int 6]) zd0_18 rfl rfl rfl ?_
    refine z_e1 (pc1 := 20) (L1 := [some (.ref 0), some (.ref 4), some (.ref 19), some (.int 6)]) (S1 := [.ref 0, .int 6]) zd0_19 rfl rfl rfl ?_
    refine z_ealn (y := 6) zd0_20 h0 rfl ?_
    refine z_e1 (pc1 := 23) (L1 := [some (.ref 0), some (.ref 4), some (.ref 19), some (.int 6)]) (S1 := [.int 6, .int 6, .int 6]) zd0_21 rfl rfl rfl ?_
    refine z_e1 (pc1 := 24) (L1 := [some (.ref 0), some (.ref 4), some (.ref 19), some (.int 6)]) (S1 := [.int 0, .int 6]) zd0_23 rfl rfl rfl ?_
    refine z_ej (t := 1781) (t2 := 1781) zd0_24 rfl rfl ?_
    refine z_e1 (pc1 := 1782) (L1 := [some (.ref 0), some (.ref 4), some (.ref 19), some (.int 6)]) (S1 := [.int 1]) zd0_1781 rfl rfl rfl ?_
    refine z_erz zd0_1782 zr0 (by decide) ?_
    exact z_K1i hN hS (by decide) (by decide)
theorem z_C17 {M : zH} {xs : Nat → Int32} {x1 x2 x3 x4 x5 : Int32} (h0 : M[0]? = some (.inl (0, 6, .inl xs))) (hN : M.length = 53) (hS : z_sz M ≤ 50000) (hB : z_fr M 4 53) (g1 : xs 1 = x1) (g2 : xs 2 = x2) (g3 : xs 3 = x3) (g4 : xs 4 = x4) (g5 : xs 5 = x5) : z_ev 2047 0 861 [some (.ref 0), some (.ref 4), some (.ref 19), some (.int 0)] [] M z_K1 := by
  have b4 := z_qO (hB 4 (by decide) (by decide))
  have b19 := z_qO (hB 19 (by decide) (by decide))
  refine z_e1 (pc1 := 862) (L1 := [some (.ref 0), some (.ref 4), some (.ref 19), some (.int 0)]) (S1 := [.ref 4]) zd0_861 rfl rfl rfl ?_
  refine z_e1 (pc1 := 863) (L1 := [some (.ref 0), some (.ref 4), some (.ref 19), some (.int 0)]) (S1 := [.ref 0, .ref 4]) zd0_862 rfl rfl rfl ?_
  refine z_e1 (pc1 := 864) (L1 := [some (.ref 0), some (.ref 4), some (.ref 19), some (.int 0)]) (S1 := [.int 0, .ref 0, .ref 4]) zd0_863 rfl rfl rfl ?_
  refine z_e1 (pc1 := 865) (L1 := [some (.ref 0), some (.ref 4), some (.ref 19), some (.int 0)]) (S1 := [.int 1, .int 0, .ref 0, .ref 4]) zd0_864 rfl rfl rfl ?_
  refine z_e1 (pc1 := 866) (L1 := [some (.ref 0), some (.ref 4), some (.ref 19), some (.int 0)]) (S1 := [.int 1, .ref 0, .ref 4]) zd0_865 rfl rfl rfl ?_
  refine z_eial (y := x1) zd0_866 h0 (by decide) g1 ?_
  refine z_e1 (pc1 := 868) (L1 := [some (.ref 0), some (.ref 4), some (.ref 19), some (.int 0)]) (S1 := [.ref 0, .int x1, .ref 4]) zd0_867 rfl rfl rfl ?_
  refine z_e1 (pc1 := 869) (L1 := [some (.ref 0), some (.ref 4), some (.ref 19), some (.int 0)]) (S1 := [.int 0, .ref 0, .int x1, .ref 4]) zd0_868 rfl rfl rfl ?_
  refine z_e1 (pc1 := 870) (L1 := [some (.ref 0), some (.ref 4), some (.ref 19), some (.int 0)]) (S1 := [.int 2, .int 0, .ref 0, .int x1, .ref 4]) zd0_869 rfl rfl rfl ?_
  refine z_e1 (pc1 := 871) (L1 := [some (.ref 0), some (.ref 4), some (.ref 19), some (.int 0)]) (S1 := [.int 2, .ref 0, .int x1, .ref 4]) zd0_870 rfl rfl rfl ?_
  refine z_eial (y := x2) zd0_871 h0 (by decide) g2 ?_
  refine z_ecV (vs := [.ref 4, .int x1, .int x2]) (r := []) (L2 := [some (.ref 4), some (.int x1), some (.int x2), none]) zd0_872 zcV0_86 (Or.inl rfl) rfl b4 (by decide) rfl rfl rfl (Nat.le_of_ble_eq_true rfl) zm83 (Nat.le_of_ble_eq_true rfl) rfl ?_
  refine z_e1 (pc1 := 1) (L1 := [some (.ref 4), some (.int x1), some (.int x2), none]) (S1 := [.ref 4]) zd83_0 rfl rfl rfl ?_
  refine z_e1 (pc1 := 2) (L1 := [some (.ref 4), some (.int x1), some (.int x2), none]) (S1 := [.int x1, .ref 4]) zd83_1 rfl rfl rfl ?_
  refine z_ecV (vs := [.ref 4, .int x1]) (r := []) (L2 := [some (.ref 4), some (.int x1)]) zd83_2 zcV83_221 (Or.inl rfl) rfl b4 (by decide) rfl rfl rfl (Nat.le_of_ble_eq_true rfl) zm84 (Nat.le_of_ble_eq_true rfl) rfl ?_
  refine z_e1 (pc1 := 1) (L1 := [some (.ref 4), some (.int x1)]) (S1 := [.int x1]) zd84_0 rfl rfl rfl ?_
  by_cases e1 : x1.toInt < 0
  · refine z_ez (t := 12) (t2 := 12) zd84_1 rfl (z_b_ltx1 (k := 0) (by decide) e1) ?_
    refine z_e1 (pc1 := 13) (L1 := [some (.ref 4), some (.int x1)]) (S1 := [.null]) zd84_12 rfl rfl rfl ?_
    refine z_e1 (pc1 := 22) (L1 := [some (.ref 4), some (.int x1)]) (S1 := [.null]) zd84_13 rfl rfl rfl ?_
    refine z_ern zd84_22 zr84 ?_
    show z_ev _ 83 5 [some (.ref 4), some (.int x1), some (.int x2), none] [.null] _ _
    refine z_e1 (pc1 := 6) (L1 := [some (.ref 4), some (.int x1), some (.int x2), some (.null)]) (S1 := []) zd83_5 rfl rfl rfl ?_
    refine z_e1 (pc1 := 7) (L1 := [some (.ref 4), some (.int x1), some (.int x2), some (.null)]) (S1 := [.null]) zd83_6 rfl rfl rfl ?_
    refine z_e1 (pc1 := 10) (L1 := [some (.ref 4), some (.int x1), some (.int x2), some (.null)]) (S1 := []) zd83_7 rfl rfl rfl ?_
    refine z_e1 (pc1 := 11) (L1 := [some (.ref 4), some (.int x1), some (.int x2), some (.null)]) (S1 := [.int (-1)]) zd83_10 rfl rfl rfl ?_
    refine z_eri zd83_11 zr83 ?_
    show z_ev _ 0 875 [some (.ref 0), some (.ref 4), some (.ref 19), some (.int 0)] [.int (-1)] _ _
    refine z_e1 (pc1 := 876) (L1 := [some (.ref 0), some (.ref 4), some (.ref 19), some (.int 0)]) (S1 := [.ref 19, .int (-1)]) zd0_875 rfl rfl rfl ?_
    refine z_e1 (pc1 := 877) (L1 := [some (.ref 0), some (.ref 4), some (.ref 19), some (.int 0)]) (S1 := [.ref 0, .ref 19, .int (-1)]) zd0_876 rfl rfl rfl ?_
    refine z_e1 (pc1 := 878) (L1 := [some (.ref 0), some (.ref 4), some (.ref 19), some (.int 0)]) (S1 := [.int 0, .ref 0, .ref 19, .int (-1)]) zd0_877 rfl rfl rfl ?_
    refine z_e1 (pc1 := 879) (L1 := [some (.ref 0), some (.ref 4), some (.ref 19), some (.int 0)]) (S1 := [.int 1, .int 0, .ref 0, .ref 19, .int (-1)]) zd0_878 rfl rfl rfl ?_
    refine z_e1 (pc1 := 880) (L1 := [some (.ref 0), some (.ref 4), some (.ref 19), some (.int 0)]) (S1 := [.int 1, .ref 0, .ref 19, .int (-1)]) zd0_879 rfl rfl rfl ?_
    refine z_eial (y := x1) zd0_880 h0 (by decide) g1 ?_
    refine z_e1 (pc1 := 882) (L1 := [some (.ref 0), some (.ref 4), some (.ref 19), some (.int 0)]) (S1 := [.ref 0, .int x1, .ref 19, .int (-1)]) zd0_881 rfl rfl rfl ?_
    refine z_e1 (pc1 := 883) (L1 := [some (.ref 0), some (.ref 4), some (.ref 19), some (.int 0)]) (S1 := [.int 0, .ref 0, .int x1, .ref 19, .int (-1)]) zd0_882 rfl rfl rfl ?_
    refine z_e1 (pc1 := 884) (L1 := [some (.ref 0), some (.ref 4), some (.ref 19), some (.int 0)]) (S1 := [.int 2, .int 0, .ref 0, .int x1, .ref 19, .int (-1)]) zd0_883 rfl rfl rfl ?_
    refine z_e1 (pc1 := 885) (L1 := [some (.ref 0), some (.ref 4), some (.ref 19), some (.int 0)]) (S1 := [.int 2, .ref 0, .int x1, .ref 19, .int (-1)]) zd0_884 rfl rfl rfl ?_
    refine z_eial (y := x2) zd0_885 h0 (by decide) g2 ?_
    refine z_ecV (vs := [.ref 19, .int x1, .int x2]) (r := [.int (-1)]) (L2 := [some (.ref 19), some (.int x1), some (.int x2)]) zd0_886 zcV0_89 (Or.inl rfl) rfl b19 (by decide) rfl rfl rfl (Nat.le_of_ble_eq_true rfl) zm236 (Nat.le_of_ble_eq_true rfl) rfl ?_
    refine z_e1 (pc1 := 1) (L1 := [some (.ref 19), some (.int x1), some (.int x2)]) (S1 := [.ref 19]) zd236_0 rfl rfl rfl ?_
    refine z_e1 (pc1 := 2) (L1 := [some (.ref 19), some (.int x1), some (.int x2)]) (S1 := [.int x1, .ref 19]) zd236_1 rfl rfl rfl ?_
    refine z_ecV (vs := [.ref 19, .int x1]) (r := []) (L2 := [some (.ref 19), some (.int x1)]) zd236_2 zcV236_272 (Or.inl rfl) rfl b19 (by decide) rfl rfl rfl (Nat.le_of_ble_eq_true rfl) zm237 (Nat.le_of_ble_eq_true rfl) rfl ?_
    refine z_e1 (pc1 := 1) (L1 := [some (.ref 19), some (.int x1)]) (S1 := [.int x1]) zd237_0 rfl rfl rfl ?_
    refine z_ez (t := 16) (t2 := 16) zd237_1 rfl (z_b_ltx1 (k := 0) (by decide) (show x1.toInt < 0 from by omega)) ?_
    refine z_e1 (pc1 := 17) (L1 := [some (.ref 19), some (.int x1)]) (S1 := [.int 0]) zd237_16 rfl rfl rfl ?_
    refine z_erz zd237_17 zr237 (by decide) ?_
    show z_ev _ 236 5 [some (.ref 19), some (.int x1), some (.int x2)] [.int 0] _ _
    refine z_ez (t := 20) (t2 := 20) zd236_5 rfl rfl ?_
    refine z_e1 (pc1 := 21) (L1 := [some (.ref 19), some (.int x1), some (.int x2)]) (S1 := [.int (-1)]) zd236_20 rfl rfl rfl ?_
    refine z_eri zd236_21 zr236 ?_
    show z_ev _ 0 889 [some (.ref 0), some (.ref 4), some (.ref 19), some (.int 0)] [.int (-1), .int (-1)] _ _
    refine z_ej (t := 1775) (t2 := 1775) zd0_889 rfl rfl ?_
    refine z_e1 (pc1 := 1778) (L1 := [some (.ref 0), some (.ref 4), some (.ref 19), some (.int 6)]) (S1 := []) zd0_1775 rfl rfl rfl ?_
    refine z_e1 (pc1 := 18) (L1 := [some (.ref 0), some (.ref 4), some (.ref 19), some (.int 6)]) (S1 := []) zd0_1778 rfl rfl rfl ?_
    refine z_e1 (pc1 := 19) (L1 := [some (.ref 0), some (.ref 4), some (.ref 19), some (.int 6)]) (S1 := [.int 6]) zd0_18 rfl rfl rfl ?_
    refine z_e1 (pc1 := 20) (L1 := [some (.ref 0), some (.ref 4), some (.ref 19), some (.int 6)]) (S1 := [.ref 0, .int 6]) zd0_19 rfl rfl rfl ?_
    refine z_ealn (y := 6) zd0_20 h0 rfl ?_
    refine z_e1 (pc1 := 23) (L1 := [some (.ref 0), some (.ref 4), some (.ref 19), some (.int 6)]) (S1 := [.int 6, .int 6, .int 6]) zd0_21 rfl rfl rfl ?_
    refine z_e1 (pc1 := 24) (L1 := [some (.ref 0), some (.ref 4), some (.ref 19), some (.int 6)]) (S1 := [.int 0, .int 6]) zd0_23 rfl rfl rfl ?_
    refine z_ej (t := 1781) (t2 := 1781) zd0_24 rfl rfl ?_
    refine z_e1 (pc1 := 1782) (L1 := [some (.ref 0), some (.ref 4), some (.ref 19), some (.int 6)]) (S1 := [.int 1]) zd0_1781 rfl rfl rfl ?_
    refine z_erz zd0_1782 zr0 (by decide) ?_
    exact z_K1i hN hS (by decide) (by decide)
  · refine z_ez (t := 12) (t2 := 4) zd84_1 rfl (z_b_ltx0 (k := 0) (by decide) e1) ?_
    refine z_e1 (pc1 := 5) (L1 := [some (.ref 4), some (.int x1)]) (S1 := [.int x1]) zd84_4 rfl rfl rfl ?_
    refine z_e1 (pc1 := 6) (L1 := [some (.ref 4), some (.int x1)]) (S1 := [.ref 4, .int x1]) zd84_5 rfl rfl rfl ?_
    refine z_egf (fs := [.ref 5, .ref 10, .ref 11, .int 0, .ref 12, .int 0, .ref 13, .ref 14, .ref 15, .ref 16, .ref 17, .ref 18, .null]) (v := .int 0) zd84_6 zf84_188 b4 (by decide) (by decide) rfl ?_
    refine z_ej (t := 16) (t2 := 12) zd84_9 rfl (z_b_ltx0 (k := 0) (by decide) (show ¬ x1.toInt < 0 from by omega)) ?_
    refine z_e1 (pc1 := 13) (L1 := [some (.ref 4), some (.int x1)]) (S1 := [.null]) zd84_12 rfl rfl rfl ?_
    refine z_e1 (pc1 := 22) (L1 := [some (.ref 4), some (.int x1)]) (S1 := [.null]) zd84_13 rfl rfl rfl ?_
    refine z_ern zd84_22 zr84 ?_
    show z_ev _ 83 5 [some (.ref 4), some (.int x1), some (.int x2), none] [.null] _ _
    refine z_e1 (pc1 := 6) (L1 := [some (.ref 4), some (.int x1), some (.int x2), some (.null)]) (S1 := []) zd83_5 rfl rfl rfl ?_
    refine z_e1 (pc1 := 7) (L1 := [some (.ref 4), some (.int x1), some (.int x2), some (.null)]) (S1 := [.null]) zd83_6 rfl rfl rfl ?_
    refine z_e1 (pc1 := 10) (L1 := [some (.ref 4), some (.int x1), some (.int x2), some (.null)]) (S1 := []) zd83_7 rfl rfl rfl ?_
    refine z_e1 (pc1 := 11) (L1 := [some (.ref 4), some (.int x1), some (.int x2), some (.null)]) (S1 := [.int (-1)]) zd83_10 rfl rfl rfl ?_
    refine z_eri zd83_11 zr83 ?_
    show z_ev _ 0 875 [some (.ref 0), some (.ref 4), some (.ref 19), some (.int 0)] [.int (-1)] _ _
    refine z_e1 (pc1 := 876) (L1 := [some (.ref 0), some (.ref 4), some (.ref 19), some (.int 0)]) (S1 := [.ref 19, .int (-1)]) zd0_875 rfl rfl rfl ?_
    refine z_e1 (pc1 := 877) (L1 := [some (.ref 0), some (.ref 4), some (.ref 19), some (.int 0)]) (S1 := [.ref 0, .ref 19, .int (-1)]) zd0_876 rfl rfl rfl ?_
    refine z_e1 (pc1 := 878) (L1 := [some (.ref 0), some (.ref 4), some (.ref 19), some (.int 0)]) (S1 := [.int 0, .ref 0, .ref 19, .int (-1)]) zd0_877 rfl rfl rfl ?_
    refine z_e1 (pc1 := 879) (L1 := [some (.ref 0), some (.ref 4), some (.ref 19), some (.int 0)]) (S1 := [.int 1, .int 0, .ref 0, .ref 19, .int (-1)]) zd0_878 rfl rfl rfl ?_
    refine z_e1 (pc1 := 880) (L1 := [some (.ref 0), some (.ref 4), some (.ref 19), some (.int 0)]) (S1 := [.int 1, .ref 0, .ref 19, .int (-1)]) zd0_879 rfl rfl rfl ?_
    refine z_eial (y := x1) zd0_880 h0 (by decide) g1 ?_
    refine z_e1 (pc1 := 882) (L1 := [some (.ref 0), some (.ref 4), some (.ref 19), some (.int 0)]) (S1 := [.ref 0, .int x1, .ref 19, .int (-1)]) zd0_881 rfl rfl rfl ?_
    refine z_e1 (pc1 := 883) (L1 := [some (.ref 0), some (.ref 4), some (.ref 19), some (.int 0)]) (S1 := [.int 0, .ref 0, .int x1, .ref 19, .int (-1)]) zd0_882 rfl rfl rfl ?_
    refine z_e1 (pc1 := 884) (L1 := [some (.ref 0), some (.ref 4), some (.ref 19), some (.int 0)]) (S1 := [.int 2, .int 0, .ref 0, .int x1, .ref 19, .int (-1)]) zd0_883 rfl rfl rfl ?_
    refine z_e1 (pc1 := 885) (L1 := [some (.ref 0), some (.ref 4), some (.ref 19), some (.int 0)]) (S1 := [.int 2, .ref 0, .int x1, .ref 19, .int (-1)]) zd0_884 rfl rfl rfl ?_
    refine z_eial (y := x2) zd0_885 h0 (by decide) g2 ?_
    refine z_ecV (vs := [.ref 19, .int x1, .int x2]) (r := [.int (-1)]) (L2 := [some (.ref 19), some (.int x1), some (.int x2)]) zd0_886 zcV0_89 (Or.inl rfl) rfl b19 (by decide) rfl rfl rfl (Nat.le_of_ble_eq_true rfl) zm236 (Nat.le_of_ble_eq_true rfl) rfl ?_
    refine z_e1 (pc1 := 1) (L1 := [some (.ref 19), some (.int x1), some (.int x2)]) (S1 := [.ref 19]) zd236_0 rfl rfl rfl ?_
    refine z_e1 (pc1 := 2) (L1 := [some (.ref 19), some (.int x1), some (.int x2)]) (S1 := [.int x1, .ref 19]) zd236_1 rfl rfl rfl ?_
    refine z_ecV (vs := [.ref 19, .int x1]) (r := []) (L2 := [some (.ref 19), some (.int x1)]) zd236_2 zcV236_272 (Or.inl rfl) rfl b19 (by decide) rfl rfl rfl (Nat.le_of_ble_eq_true rfl) zm237 (Nat.le_of_ble_eq_true rfl) rfl ?_
    refine z_e1 (pc1 := 1) (L1 := [some (.ref 19), some (.int x1)]) (S1 := [.int x1]) zd237_0 rfl rfl rfl ?_
    refine z_ez (t := 16) (t2 := 4) zd237_1 rfl (z_b_ltx0 (k := 0) (by decide) (show ¬ x1.toInt < 0 from by omega)) ?_
    refine z_e1 (pc1 := 5) (L1 := [some (.ref 19), some (.int x1)]) (S1 := [.int x1]) zd237_4 rfl rfl rfl ?_
    refine z_e1 (pc1 := 6) (L1 := [some (.ref 19), some (.int x1)]) (S1 := [.ref 19, .int x1]) zd237_5 rfl rfl rfl ?_
    refine z_egf (fs := [.ref 20, .int 0, .ref 21, .ref 22, .ref 23, .ref 24, .ref 25, .ref 26, .ref 27, .ref 28, .ref 29, .ref 30, .ref 31, .int 0, .ref 32, .ref 33, .ref 34, .ref 35, .ref 36, .ref 37, .ref 38, .int 0, .int 0, .int 0, .int 0, .int 0, .int 0, .int 0, .int 0, .int 0, .int 0, .ref 39, .ref 40, .ref 41, .int 0, .int 0, .ref 42, .ref 43, .ref 44, .ref 45, .ref 46, .int 0, .ref 47, .int 0, .int 0, .int 0, .ref 48, .int 0, .int 0, .ref 49, .ref 50, .ref 51, .ref 52]) (v := .int 0) zd237_6 zf237_269 b19 (by decide) (by decide) rfl ?_
    refine z_ej (t := 16) (t2 := 16) zd237_9 rfl (z_b_gex0 (k := 0) (by decide) (show ¬ x1.toInt < 0 from by omega)) ?_
    refine z_e1 (pc1 := 17) (L1 := [some (.ref 19), some (.int x1)]) (S1 := [.int 0]) zd237_16 rfl rfl rfl ?_
    refine z_erz zd237_17 zr237 (by decide) ?_
    show z_ev _ 236 5 [some (.ref 19), some (.int x1), some (.int x2)] [.int 0] _ _
    refine z_ez (t := 20) (t2 := 20) zd236_5 rfl rfl ?_
    refine z_e1 (pc1 := 21) (L1 := [some (.ref 19), some (.int x1), some (.int x2)]) (S1 := [.int (-1)]) zd236_20 rfl rfl rfl ?_
    refine z_eri zd236_21 zr236 ?_
    show z_ev _ 0 889 [some (.ref 0), some (.ref 4), some (.ref 19), some (.int 0)] [.int (-1), .int (-1)] _ _
    refine z_ej (t := 1775) (t2 := 1775) zd0_889 rfl rfl ?_
    refine z_e1 (pc1 := 1778) (L1 := [some (.ref 0), some (.ref 4), some (.ref 19), some (.int 6)]) (S1 := []) zd0_1775 rfl rfl rfl ?_
    refine z_e1 (pc1 := 18) (L1 := [some (.ref 0), some (.ref 4), some (.ref 19), some (.int 6)]) (S1 := []) zd0_1778 rfl rfl rfl ?_
    refine z_e1 (pc1 := 19) (L1 := [some (.ref 0), some (.ref 4), some (.ref 19), some (.int 6)]) (S1 := [.int 6]) zd0_18 rfl rfl rfl ?_
    refine z_e1 (pc1 := 20) (L1 := [some (.ref 0), some (.ref 4), some (.ref 19), some (.int 6)]) (S1 := [.ref 0, .int 6]) zd0_19 rfl rfl rfl ?_
    refine z_ealn (y := 6) zd0_20 h0 rfl ?_
    refine z_e1 (pc1 := 23) (L1 := [some (.ref 0), some (.ref 4), some (.ref 19), some (.int 6)]) (S1 := [.int 6, .int 6, .int 6]) zd0_21 rfl rfl rfl ?_
    refine z_e1 (pc1 := 24) (L1 := [some (.ref 0), some (.ref 4), some (.ref 19), some (.int 6)]) (S1 := [.int 0, .int 6]) zd0_23 rfl rfl rfl ?_
    refine z_ej (t := 1781) (t2 := 1781) zd0_24 rfl rfl ?_
    refine z_e1 (pc1 := 1782) (L1 := [some (.ref 0), some (.ref 4), some (.ref 19), some (.int 6)]) (S1 := [.int 1]) zd0_1781 rfl rfl rfl ?_
    refine z_erz zd0_1782 zr0 (by decide) ?_
    exact z_K1i hN hS (by decide) (by decide)
theorem z_C18 {M : zH} {xs : Nat → Int32} {x1 x2 x3 x4 x5 : Int32} (h0 : M[0]? = some (.inl (0, 6, .inl xs))) (hN : M.length = 53) (hS : z_sz M ≤ 50000) (hB : z_fr M 4 53) (g1 : xs 1 = x1) (g2 : xs 2 = x2) (g3 : xs 3 = x3) (g4 : xs 4 = x4) (g5 : xs 5 = x5) : z_ev 2047 0 894 [some (.ref 0), some (.ref 4), some (.ref 19), some (.int 0)] [] M z_K1 := by
  have b4 := z_qO (hB 4 (by decide) (by decide))
  have b19 := z_qO (hB 19 (by decide) (by decide))
  refine z_e1 (pc1 := 895) (L1 := [some (.ref 0), some (.ref 4), some (.ref 19), some (.int 0)]) (S1 := [.ref 4]) zd0_894 rfl rfl rfl ?_
  refine z_e1 (pc1 := 896) (L1 := [some (.ref 0), some (.ref 4), some (.ref 19), some (.int 0)]) (S1 := [.ref 0, .ref 4]) zd0_895 rfl rfl rfl ?_
  refine z_e1 (pc1 := 897) (L1 := [some (.ref 0), some (.ref 4), some (.ref 19), some (.int 0)]) (S1 := [.int 0, .ref 0, .ref 4]) zd0_896 rfl rfl rfl ?_
  refine z_e1 (pc1 := 898) (L1 := [some (.ref 0), some (.ref 4), some (.ref 19), some (.int 0)]) (S1 := [.int 1, .int 0, .ref 0, .ref 4]) zd0_897 rfl rfl rfl ?_
  refine z_e1 (pc1 := 899) (L1 := [some (.ref 0), some (.ref 4), some (.ref 19), some (.int 0)]) (S1 := [.int 1, .ref 0, .ref 4]) zd0_898 rfl rfl rfl ?_
  refine z_eial (y := x1) zd0_899 h0 (by decide) g1 ?_
  refine z_e1 (pc1 := 901) (L1 := [some (.ref 0), some (.ref 4), some (.ref 19), some (.int 0)]) (S1 := [.ref 0, .int x1, .ref 4]) zd0_900 rfl rfl rfl ?_
  refine z_e1 (pc1 := 902) (L1 := [some (.ref 0), some (.ref 4), some (.ref 19), some (.int 0)]) (S1 := [.int 0, .ref 0, .int x1, .ref 4]) zd0_901 rfl rfl rfl ?_
  refine z_e1 (pc1 := 903) (L1 := [some (.ref 0), some (.ref 4), some (.ref 19), some (.int 0)]) (S1 := [.int 2, .int 0, .ref 0, .int x1, .ref 4]) zd0_902 rfl rfl rfl ?_
  refine z_e1 (pc1 := 904) (L1 := [some (.ref 0), some (.ref 4), some (.ref 19), some (.int 0)]) (S1 := [.int 2, .ref 0, .int x1, .ref 4]) zd0_903 rfl rfl rfl ?_
  refine z_eial (y := x2) zd0_904 h0 (by decide) g2 ?_
  refine z_e1 (pc1 := 906) (L1 := [some (.ref 0), some (.ref 4), some (.ref 19), some (.int 0)]) (S1 := [.ref 0, .int x2, .int x1, .ref 4]) zd0_905 rfl rfl rfl ?_
  refine z_e1 (pc1 := 907) (L1 := [some (.ref 0), some (.ref 4), some (.ref 19), some (.int 0)]) (S1 := [.int 0, .ref 0, .int x2, .int x1, .ref 4]) zd0_906 rfl rfl rfl ?_
  refine z_e1 (pc1 := 908) (L1 := [some (.ref 0), some (.ref 4), some (.ref 19), some (.int 0)]) (S1 := [.int 3, .int 0, .ref 0, .int x2, .int x1, .ref 4]) zd0_907 rfl rfl rfl ?_
  refine z_e1 (pc1 := 909) (L1 := [some (.ref 0), some (.ref 4), some (.ref 19), some (.int 0)]) (S1 := [.int 3, .ref 0, .int x2, .int x1, .ref 4]) zd0_908 rfl rfl rfl ?_
  refine z_eial (y := x3) zd0_909 h0 (by decide) g3 ?_
  refine z_ecV (vs := [.ref 4, .int x1, .int x2, .int x3]) (r := []) (L2 := [some (.ref 4), some (.int x1), some (.int x2), some (.int x3), none, none, none]) zd0_910 zcV0_90 (Or.inl rfl) rfl b4 (by decide) rfl rfl rfl (Nat.le_of_ble_eq_true rfl) zm85 (Nat.le_of_ble_eq_true rfl) rfl ?_
  refine z_e1 (pc1 := 1) (L1 := [some (.ref 4), some (.int x1), some (.int x2), some (.int x3), none, none, none]) (S1 := [.ref 4]) zd85_0 rfl rfl rfl ?_
  refine z_e1 (pc1 := 2) (L1 := [some (.ref 4), some (.int x1), some (.int x2), some (.int x3), none, none, none]) (S1 := [.int x1, .ref 4]) zd85_1 rfl rfl rfl ?_
  refine z_ecV (vs := [.ref 4, .int x1]) (r := []) (L2 := [some (.ref 4), some (.int x1)]) zd85_2 zcV85_221 (Or.inl rfl) rfl b4 (by decide) rfl rfl rfl (Nat.le_of_ble_eq_true rfl) zm84 (Nat.le_of_ble_eq_true rfl) rfl ?_
  refine z_e1 (pc1 := 1) (L1 := [some (.ref 4), some (.int x1)]) (S1 := [.int x1]) zd84_0 rfl rfl rfl ?_
  by_cases e1 : x1.toInt < 0
  · refine z_ez (t := 12) (t2 := 12) zd84_1 rfl (z_b_ltx1 (k := 0) (by decide) e1) ?_
    refine z_e1 (pc1 := 13) (L1 := [some (.ref 4), some (.int x1)]) (S1 := [.null]) zd84_12 rfl rfl rfl ?_
    refine z_e1 (pc1 := 22) (L1 := [some (.ref 4), some (.int x1)]) (S1 := [.null]) zd84_13 rfl rfl rfl ?_
    refine z_ern zd84_22 zr84 ?_
    show z_ev _ 85 5 [some (.ref 4), some (.int x1), some (.int x2), some (.int x3), none, none, none] [.null] _ _
    refine z_e1 (pc1 := 7) (L1 := [some (.ref 4), some (.int x1), some (.int x2), some (.int x3), some (.null), none, none]) (S1 := []) zd85_5 rfl rfl rfl ?_
    refine z_e1 (pc1 := 8) (L1 := [some (.ref 4), some (.int x1), some (.int x2), some (.int x3), some (.null), none, none]) (S1 := [.ref 4]) zd85_7 rfl rfl rfl ?_
    refine z_e1 (pc1 := 9) (L1 := [some (.ref 4), some (.int x1), some (.int x2), some (.int x3), some (.null), none, none]) (S1 := [.int x2, .ref 4]) zd85_8 rfl rfl rfl ?_
    refine z_ecV (vs := [.ref 4, .int x2]) (r := []) (L2 := [some (.ref 4), some (.int x2)]) zd85_9 zcV85_85 (Or.inl rfl) rfl b4 (by decide) rfl rfl rfl (Nat.le_of_ble_eq_true rfl) zm35 (Nat.le_of_ble_eq_true rfl) rfl ?_
    refine z_e1 (pc1 := 1) (L1 := [some (.ref 4), some (.int x2)]) (S1 := [.int x2]) zd35_0 rfl rfl rfl ?_
    by_cases e2 : x2.toInt < 0
    · refine z_ez (t := 12) (t2 := 12) zd35_1 rfl (z_b_ltx1 (k := 0) (by decide) e2) ?_
      refine z_e1 (pc1 := 13) (L1 := [some (.ref 4), some (.int x2)]) (S1 := [.null]) zd35_12 rfl rfl rfl ?_
      refine z_e1 (pc1 := 22) (L1 := [some (.ref 4), some (.int x2)]) (S1 := [.null]) zd35_13 rfl rfl rfl ?_
      refine z_ern zd35_22 zr35 ?_
      show z_ev _ 85 12 [some (.ref 4), some (.int x1), some (.int x2), some (.int x3), some (.null), none, none] [.null] _ _
      refine z_e1 (pc1 := 14) (L1 := [some (.ref 4), some (.int x1), some (.int x2), some (.int x3), some (.null), some (.null), none]) (S1 := []) zd85_12 rfl rfl rfl ?_
      refine z_e1 (pc1 := 16) (L1 := [some (.ref 4), some (.int x1), some (.int x2), some (.int x3), some (.null), some (.null), none]) (S1 := [.null]) zd85_14 rfl rfl rfl ?_
      refine z_e1 (pc1 := 33) (L1 := [some (.ref 4), some (.int x1), some (.int x2), some (.int x3), some (.null), some (.null), none]) (S1 := []) zd85_16 rfl rfl rfl ?_
      refine z_e1 (pc1 := 34) (L1 := [some (.ref 4), some (.int x1), some (.int x2), some (.int x3), some (.null), some (.null), none]) (S1 := [.int (-1)]) zd85_33 rfl rfl rfl ?_
      refine z_eri zd85_34 zr85 ?_
      show z_ev _ 0 913 [some (.ref 0), some (.ref 4), some (.ref 19), some (.int 0)] [.int (-1)] _ _
      refine z_e1 (pc1 := 914) (L1 := [some (.ref 0), some (.ref 4), some (.ref 19), some (.int 0)]) (S1 := [.ref 19, .int (-1)]) zd0_913 rfl rfl rfl ?_
      refine z_e1 (pc1 := 915) (L1 := [some (.ref 0), some (.ref 4), some (.ref 19), some (.int 0)]) (S1 := [.ref 0, .ref 19, .int (-1)]) zd0_914 rfl rfl rfl ?_
      refine z_e1 (pc1 := 916) (L1 := [some (.ref 0), some (.ref 4), some (.ref 19), some (.int 0)]) (S1 := [.int 0, .ref 0, .ref 19, .int (-1)]) zd0_915 rfl rfl rfl ?_
      refine z_e1 (pc1 := 917) (L1 := [some (.ref 0), some (.ref 4), some (.ref 19), some (.int 0)]) (S1 := [.int 1, .int 0, .ref 0, .ref 19, .int (-1)]) zd0_916 rfl rfl rfl ?_
      refine z_e1 (pc1 := 918) (L1 := [some (.ref 0), some (.ref 4), some (.ref 19), some (.int 0)]) (S1 := [.int 1, .ref 0, .ref 19, .int (-1)]) zd0_917 rfl rfl rfl ?_
      refine z_eial (y := x1) zd0_918 h0 (by decide) g1 ?_
      refine z_e1 (pc1 := 920) (L1 := [some (.ref 0), some (.ref 4), some (.ref 19), some (.int 0)]) (S1 := [.ref 0, .int x1, .ref 19, .int (-1)]) zd0_919 rfl rfl rfl ?_
      refine z_e1 (pc1 := 921) (L1 := [some (.ref 0), some (.ref 4), some (.ref 19), some (.int 0)]) (S1 := [.int 0, .ref 0, .int x1, .ref 19, .int (-1)]) zd0_920 rfl rfl rfl ?_
      refine z_e1 (pc1 := 922) (L1 := [some (.ref 0), some (.ref 4), some (.ref 19), some (.int 0)]) (S1 := [.int 2, .int 0, .ref 0, .int x1, .ref 19, .int (-1)]) zd0_921 rfl rfl rfl ?_
      refine z_e1 (pc1 := 923) (L1 := [some (.ref 0), some (.ref 4), some (.ref 19), some (.int 0)]) (S1 := [.int 2, .ref 0, .int x1, .ref 19, .int (-1)]) zd0_922 rfl rfl rfl ?_
      refine z_eial (y := x2) zd0_923 h0 (by decide) g2 ?_
      refine z_e1 (pc1 := 925) (L1 := [some (.ref 0), some (.ref 4), some (.ref 19), some (.int 0)]) (S1 := [.ref 0, .int x2, .int x1, .ref 19, .int (-1)]) zd0_924 rfl rfl rfl ?_
      refine z_e1 (pc1 := 926) (L1 := [some (.ref 0), some (.ref 4), some (.ref 19), some (.int 0)]) (S1 := [.int 0, .ref 0, .int x2, .int x1, .ref 19, .int (-1)]) zd0_925 rfl rfl rfl ?_
      refine z_e1 (pc1 := 927) (L1 := [some (.ref 0), some (.ref 4), some (.ref 19), some (.int 0)]) (S1 := [.int 3, .int 0, .ref 0, .int x2, .int x1, .ref 19, .int (-1)]) zd0_926 rfl rfl rfl ?_
      refine z_e1 (pc1 := 928) (L1 := [some (.ref 0), some (.ref 4), some (.ref 19), some (.int 0)]) (S1 := [.int 3, .ref 0, .int x2, .int x1, .ref 19, .int (-1)]) zd0_927 rfl rfl rfl ?_
      refine z_eial (y := x3) zd0_928 h0 (by decide) g3 ?_
      refine z_ecV (vs := [.ref 19, .int x1, .int x2, .int x3]) (r := [.int (-1)]) (L2 := [some (.ref 19), some (.int x1), some (.int x2), some (.int x3)]) zd0_929 zcV0_93 (Or.inl rfl) rfl b19 (by decide) rfl rfl rfl (Nat.le_of_ble_eq_true rfl) zm238 (Nat.le_of_ble_eq_true rfl) rfl ?_
      refine z_e1 (pc1 := 1) (L1 := [some (.ref 19), some (.int x1), some (.int x2), some (.int x3)]) (S1 := [.ref 19]) zd238_0 rfl rfl rfl ?_
      refine z_e1 (pc1 := 2) (L1 := [some (.ref 19), some (.int x1), some (.int x2), some (.int x3)]) (S1 := [.int x1, .ref 19]) zd238_1 rfl rfl rfl ?_
      refine z_ecV (vs := [.ref 19, .int x1]) (r := []) (L2 := [some (.ref 19), some (.int x1)]) zd238_2 zcV238_272 (Or.inl rfl) rfl b19 (by decide) rfl rfl rfl (Nat.le_of_ble_eq_true rfl) zm237 (Nat.le_of_ble_eq_true rfl) rfl ?_
      refine z_e1 (pc1 := 1) (L1 := [some (.ref 19), some (.int x1)]) (S1 := [.int x1]) zd237_0 rfl rfl rfl ?_
      refine z_ez (t := 16) (t2 := 16) zd237_1 rfl (z_b_ltx1 (k := 0) (by decide) (show x1.toInt < 0 from by omega)) ?_
      refine z_e1 (pc1 := 17) (L1 := [some (.ref 19), some (.int x1)]) (S1 := [.int 0]) zd237_16 rfl rfl rfl ?_
      refine z_erz zd237_17 zr237 (by decide) ?_
      show z_ev _ 238 5 [some (.ref 19), some (.int x1), some (.int x2), some (.int x3)] [.int 0] _ _
      refine z_ez (t := 28) (t2 := 28) zd238_5 rfl rfl ?_
      refine z_e1 (pc1 := 29) (L1 := [some (.ref 19), some (.int x1), some (.int x2), some (.int x3)]) (S1 := [.int (-1)]) zd238_28 rfl rfl rfl ?_
      refine z_eri zd238_29 zr238 ?_
      show z_ev _ 0 932 [some (.ref 0), some (.ref 4), some (.ref 19), some (.int 0)] [.int (-1), .int (-1)] _ _
      refine z_ej (t := 1775) (t2 := 1775) zd0_932 rfl rfl ?_
      refine z_e1 (pc1 := 1778) (L1 := [some (.ref 0), some (.ref 4), some (.ref 19), some (.int 6)]) (S1 := []) zd0_1775 rfl rfl rfl ?_
      refine z_e1 (pc1 := 18) (L1 := [some (.ref 0), some (.ref 4), some (.ref 19), some (.int 6)]) (S1 := []) zd0_1778 rfl rfl rfl ?_
      refine z_e1 (pc1 := 19) (L1 := [some (.ref 0), some (.ref 4), some (.ref 19), some (.int 6)]) (S1 := [.int 6]) zd0_18 rfl rfl rfl ?_
      refine z_e1 (pc1 := 20) (L1 := [some (.ref 0), some (.ref 4), some (.ref 19), some (.int 6)]) (S1 := [.ref 0, .int 6]) zd0_19 rfl rfl rfl ?_
      refine z_ealn (y := 6) zd0_20 h0 rfl ?_
      refine z_e1 (pc1 := 23) (L1 := [some (.ref 0), some (.ref 4), some (.ref 19), some (.int 6)]) (S1 := [.int 6, .int 6, .int 6]) zd0_21 rfl rfl rfl ?_
      refine z_e1 (pc1 := 24) (L1 := [some (.ref 0), some (.ref 4), some (.ref 19), some (.int 6)]) (S1 := [.int 0, .int 6]) zd0_23 rfl rfl rfl ?_
      refine z_ej (t := 1781) (t2 := 1781) zd0_24 rfl rfl ?_
      refine z_e1 (pc1 := 1782) (L1 := [some (.ref 0), some (.ref 4), some (.ref 19), some (.int 6)]) (S1 := [.int 1]) zd0_1781 rfl rfl rfl ?_
      refine z_erz zd0_1782 zr0 (by decide) ?_
      exact z_K1i hN hS (by decide) (by decide)
    · refine z_ez (t := 12) (t2 := 4) zd35_1 rfl (z_b_ltx0 (k := 0) (by decide) e2) ?_
      refine z_e1 (pc1 := 5) (L1 := [some (.ref 4), some (.int x2)]) (S1 := [.int x2]) zd35_4 rfl rfl rfl ?_
      refine z_e1 (pc1 := 6) (L1 := [some (.ref 4), some (.int x2)]) (S1 := [.ref 4, .int x2]) zd35_5 rfl rfl rfl ?_
      refine z_egf (fs := [.ref 5, .ref 10, .ref 11, .int 0, .ref 12, .int 0, .ref 13, .ref 14, .ref 15, .ref 16, .ref 17, .ref 18, .null]) (v := .int 0) zd35_6 zf35_59 b4 (by decide) (by decide) rfl ?_
      refine z_ej (t := 16) (t2 := 12) zd35_9 rfl (z_b_ltx0 (k := 0) (by decide) (show ¬ x2.toInt < 0 from by omega)) ?_
      refine z_e1 (pc1 := 13) (L1 := [some (.ref 4), some (.int x2)]) (S1 := [.null]) zd35_12 rfl rfl rfl ?_
      refine z_e1 (pc1 := 22) (L1 := [some (.ref 4), some (.int x2)]) (S1 := [.null]) zd35_13 rfl rfl rfl ?_
      refine z_ern zd35_22 zr35 ?_
      show z_ev _ 85 12 [some (.ref 4), some (.int x1), some (.int x2), some (.int x3), some (.null), none, none] [.null] _ _
      refine z_e1 (pc1 := 14) (L1 := [some (.ref 4), some (.int x1), some (.int x2), some (.int x3), some (.null), some (.null), none]) (S1 := []) zd85_12 rfl rfl rfl ?_
      refine z_e1 (pc1 := 16) (L1 := [some (.ref 4), some (.int x1), some (.int x2), some (.int x3), some (.null), some (.null), none]) (S1 := [.null]) zd85_14 rfl rfl rfl ?_
      refine z_e1 (pc1 := 33) (L1 := [some (.ref 4), some (.int x1), some (.int x2), some (.int x3), some (.null), some (.null), none]) (S1 := []) zd85_16 rfl rfl rfl ?_
      refine z_e1 (pc1 := 34) (L1 := [some (.ref 4), some (.int x1), some (.int x2), some (.int x3), some (.null), some (.null), none]) (S1 := [.int (-1)]) zd85_33 rfl rfl rfl ?_
      refine z_eri zd85_34 zr85 ?_
      show z_ev _ 0 913 [some (.ref 0), some (.ref 4), some (.ref 19), some (.int 0)] [.int (-1)] _ _
      refine z_e1 (pc1 := 914) (L1 := [some (.ref 0), some (.ref 4), some (.ref 19), some (.int 0)]) (S1 := [.ref 19, .int (-1)]) zd0_913 rfl rfl rfl ?_
      refine z_e1 (pc1 := 915) (L1 := [some (.ref 0), some (.ref 4), some (.ref 19), some (.int 0)]) (S1 := [.ref 0, .ref 19, .int (-1)]) zd0_914 rfl rfl rfl ?_
      refine z_e1 (pc1 := 916) (L1 := [some (.ref 0), some (.ref 4), some (.ref 19), some (.int 0)]) (S1 := [.int 0, .ref 0, .ref 19, .int (-1)]) zd0_915 rfl rfl rfl ?_
      refine z_e1 (pc1 := 917) (L1 := [some (.ref 0), some (.ref 4), some (.ref 19), some (.int 0)]) (S1 := [.int 1, .int 0, .ref 0, .ref 19, .int (-1)]) zd0_916 rfl rfl rfl ?_
      refine z_e1 (pc1 := 918) (L1 := [some (.ref 0), some (.ref 4), some (.ref 19), some (.int 0)]) (S1 := [.int 1, .ref 0, .ref 19, .int (-1)]) zd0_917 rfl rfl rfl ?_
      refine z_eial (y := x1) zd0_918 h0 (by decide) g1 ?_
      refine z_e1 (pc1 := 920) (L1 := [some (.ref 0), some (.ref 4), some (.ref 19), some (.int 0)]) (S1 := [.ref 0, .int x1, .ref 19, .int (-1)]) zd0_919 rfl rfl rfl ?_
      refine z_e1 (pc1 := 921) (L1 := [some (.ref 0), some (.ref 4), some (.ref 19), some (.int 0)]) (S1 := [.int 0, .ref 0, .int x1, .ref 19, .int (-1)]) zd0_920 rfl rfl rfl ?_
      refine z_e1 (pc1 := 922) (L1 := [some (.ref 0), some (.ref 4), some (.ref 19), some (.int 0)]) (S1 := [.int 2, .int 0, .ref 0, .int x1, .ref 19, .int (-1)]) zd0_921 rfl rfl rfl ?_
      refine z_e1 (pc1 := 923) (L1 := [some (.ref 0), some (.ref 4), some (.ref 19), some (.int 0)]) (S1 := [.int 2, .ref 0, .int x1, .ref 19, .int (-1)]) zd0_922 rfl rfl rfl ?_
      refine z_eial (y := x2) zd0_923 h0 (by decide) g2 ?_
      refine z_e1 (pc1 := 925) (L1 := [some (.ref 0), some (.ref 4), some (.ref 19), some (.int 0)]) (S1 := [.ref 0, .int x2, .int x1, .ref 19, .int (-1)]) zd0_924 rfl rfl rfl ?_
      refine z_e1 (pc1 := 926) (L1 := [some (.ref 0), some (.ref 4), some (.ref 19), some (.int 0)]) (S1 := [.int 0, .ref 0, .int x2, .int x1, .ref 19, .int (-1)]) zd0_925 rfl rfl rfl ?_
      refine z_e1 (pc1 := 927) (L1 := [some (.ref 0), some (.ref 4), some (.ref 19), some (.int 0)]) (S1 := [.int 3, .int 0, .ref 0, .int x2, .int x1, .ref 19, .int (-1)]) zd0_926 rfl rfl rfl ?_
      refine z_e1 (pc1 := 928) (L1 := [some (.ref 0), some (.ref 4), some (.ref 19), some (.int 0)]) (S1 := [.int 3, .ref 0, .int x2, .int x1, .ref 19, .int (-1)]) zd0_927 rfl rfl rfl ?_
      refine z_eial (y := x3) zd0_928 h0 (by decide) g3 ?_
      refine z_ecV (vs := [.ref 19, .int x1, .int x2, .int x3]) (r := [.int (-1)]) (L2 := [some (.ref 19), some (.int x1), some (.int x2), some (.int x3)]) zd0_929 zcV0_93 (Or.inl rfl) rfl b19 (by decide) rfl rfl rfl (Nat.le_of_ble_eq_true rfl) zm238 (Nat.le_of_ble_eq_true rfl) rfl ?_
      refine z_e1 (pc1 := 1) (L1 := [some (.ref 19), some (.int x1), some (.int x2), some (.int x3)]) (S1 := [.ref 19]) zd238_0 rfl rfl rfl ?_
      refine z_e1 (pc1 := 2) (L1 := [some (.ref 19), some (.int x1), some (.int x2), some (.int x3)]) (S1 := [.int x1, .ref 19]) zd238_1 rfl rfl rfl ?_
      refine z_ecV (vs := [.ref 19, .int x1]) (r := []) (L2 := [some (.ref 19), some (.int x1)]) zd238_2 zcV238_272 (Or.inl rfl) rfl b19 (by decide) rfl rfl rfl (Nat.le_of_ble_eq_true rfl) zm237 (Nat.le_of_ble_eq_true rfl) rfl ?_
      refine z_e1 (pc1 := 1) (L1 := [some (.ref 19), some (.int x1)]) (S1 := [.int x1]) zd237_0 rfl rfl rfl ?_
      refine z_ez (t := 16) (t2 := 16) zd237_1 rfl (z_b_ltx1 (k := 0) (by decide) (show x1.toInt < 0 from by omega)) ?_
      refine z_e1 (pc1 := 17) (L1 := [some (.ref 19), some (.int x1)]) (S1 := [.int 0]) zd237_16 rfl rfl rfl ?_
      refine z_erz zd237_17 zr237 (by decide) ?_
      show z_ev _ 238 5 [some (.ref 19), some (.int x1), some (.int x2), some (.int x3)] [.int 0] _ _
      refine z_ez (t := 28) (t2 := 28) zd238_5 rfl rfl ?_
      refine z_e1 (pc1 := 29) (L1 := [some (.ref 19), some (.int x1), some (.int x2), some (.int x3)]) (S1 := [.int (-1)]) zd238_28 rfl rfl rfl ?_
      refine z_eri zd238_29 zr238 ?_
      show z_ev _ 0 932 [some (.ref 0), some (.ref 4), some (.ref 19), some (.int 0)] [.int (-1), .int (-1)] _ _
      refine z_ej (t := 1775) (t2 := 1775) zd0_932 rfl rfl ?_
      refine z_e1 (pc1 := 1778) (L1 := [some (.ref 0), some (.ref 4), some (.ref 19), some (.int 6)]) (S1 := []) zd0_1775 rfl rfl rfl ?_
      refine z_e1 (pc1 := 18) (L1 := [some (.ref 0), some (.ref 4), some (.ref 19), some (.int 6)]) (S1 := []) zd0_1778 rfl rfl rfl ?_
      refine z_e1 (pc1 := 19) (L1 := [some (.ref 0), some (.ref 4), some (.ref 19), some (.int 6)]) (S1 := [.int 6]) zd0_18 rfl rfl rfl ?_
      refine z_e1 (pc1 := 20) (L1 := [some (.ref 0), some (.ref 4), some (.ref 19), some (.int 6)]) (S1 := [.ref 0, .int 6]) zd0_19 rfl rfl rfl ?_
      refine z_ealn (y := 6) zd0_20 h0 rfl ?_
      refine z_e1 (pc1 := 23) (L1 := [some (.ref 0), some (.ref 4), some (.ref 19), some (.int 6)]) (S1 := [.int 6, .int 6, .int 6]) zd0_21 rfl rfl rfl ?_
      refine z_e1 (pc1 := 24) (L1 := [some (.ref 0), some (.ref 4), some (.ref 19), some (.int 6)]) (S1 := [.int 0, .int 6]) zd0_23 rfl rfl rfl ?_
      refine z_ej (t := 1781) (t2 := 1781) zd0_24 rfl rfl ?_
      refine z_e1 (pc1 := 1782) (L1 := [some (.ref 0), some (.ref 4), some (.ref 19), some (.int 6)]) (S1 := [.int 1]) zd0_1781 rfl rfl rfl ?_
      refine z_erz zd0_1782 zr0 (by decide) ?_
      exact z_K1i hN hS (by decide) (by decide)
  · refine z_ez (t := 12) (t2 := 4) zd84_1 rfl (z_b_ltx0 (k := 0) (by decide) e1) ?_
    refine z_e1 (pc1 := 5) (L1 := [some (.ref 4), some (.int x1)]) (S1 := [.int x1]) zd84_4 rfl rfl rfl ?_
    refine z_e1 (pc1 := 6) (L1 := [some (.ref 4), some (.int x1)]) (S1 := [.ref 4, .int x1]) zd84_5 rfl rfl rfl ?_
    refine z_egf (fs := [.ref 5, .ref 10, .ref 11, .int 0, .ref 12, .int 0, .ref 13, .ref 14, .ref 15, .ref 16, .ref 17, .ref 18, .null]) (v := .int 0) zd84_6 zf84_188 b4 (by decide) (by decide) rfl ?_
    refine z_ej (t := 16) (t2 := 12) zd84_9 rfl (z_b_ltx0 (k := 0) (by decide) (show ¬ x1.toInt < 0 from by omega)) ?_
    refine z_e1 (pc1 := 13) (L1 := [some (.ref 4), some (.int x1)]) (S1 := [.null]) zd84_12 rfl rfl rfl ?_
    refine z_e1 (pc1 := 22) (L1 := [some (.ref 4), some (.int x1)]) (S1 := [.null]) zd84_13 rfl rfl rfl ?_
    refine z_ern zd84_22 zr84 ?_
    show z_ev _ 85 5 [some (.ref 4), some (.int x1), some (.int x2), some (.int x3), none, none, none] [.null] _ _
    refine z_e1 (pc1 := 7) (L1 := [some (.ref 4), some (.int x1), some (.int x2), some (.int x3), some (.null), none, none]) (S1 := []) zd85_5 rfl rfl rfl ?_
    refine z_e1 (pc1 := 8) (L1 := [some (.ref 4), some (.int x1), some (.int x2), some (.int x3), some (.null), none, none]) (S1 := [.ref 4]) zd85_7 rfl rfl rfl ?_
    refine z_e1 (pc1 := 9) (L1 := [some (.ref 4), some (.int x1), some (.int x2), some (.int x3), some (.null), none, none]) (S1 := [.int x2, .ref 4]) zd85_8 rfl rfl rfl ?_
    refine z_ecV (vs := [.ref 4, .int x2]) (r := []) (L2 := [some (.ref 4), some (.int x2)]) zd85_9 zcV85_85 (Or.inl rfl) rfl b4 (by decide) rfl rfl rfl (Nat.le_of_ble_eq_true rfl) zm35 (Nat.le_of_ble_eq_true rfl) rfl ?_
    refine z_e1 (pc1 := 1) (L1 := [some (.ref 4), some (.int x2)]) (S1 := [.int x2]) zd35_0 rfl rfl rfl ?_
    by_cases e3 : x2.toInt < 0
    · refine z_ez (t := 12) (t2 := 12) zd35_1 rfl (z_b_ltx1 (k := 0) (by decide) e3) ?_
      refine z_e1 (pc1 := 13) (L1 := [some (.ref 4), some (.int x2)]) (S1 := [.null]) zd35_12 rfl rfl rfl ?_
      refine z_e1 (pc1 := 22) (L1 := [some (.ref 4), some (.int x2)]) (S1 := [.null]) zd35_13 rfl rfl rfl ?_
      refine z_ern zd35_22 zr35 ?_
      show z_ev _ 85 12 [some (.ref 4), some (.int x1), some (.int x2), some (.int x3), some (.null), none, none] [.null] _ _
      refine z_e1 (pc1 := 14) (L1 := [some (.ref 4), some (.int x1), some (.int x2), some (.int x3), some (.null), some (.null), none]) (S1 := []) zd85_12 rfl rfl rfl ?_
      refine z_e1 (pc1 := 16) (L1 := [some (.ref 4), some (.int x1), some (.int x2), some (.int x3), some (.null), some (.null), none]) (S1 := [.null]) zd85_14 rfl rfl rfl ?_
      refine z_e1 (pc1 := 33) (L1 := [some (.ref 4), some (.int x1), some (.int x2), some (.int x3), some (.null), some (.null), none]) (S1 := []) zd85_16 rfl rfl rfl ?_
      refine z_e1 (pc1 := 34) (L1 := [some (.ref 4), some (.int x1), some (.int x2), some (.int x3), some (.null), some (.null), none]) (S1 := [.int (-1)]) zd85_33 rfl rfl rfl ?_
      refine z_eri zd85_34 zr85 ?_
      show z_ev _ 0 913 [some (.ref 0), some (.ref 4), some (.ref 19), some (.int 0)] [.int (-1)] _ _
      refine z_e1 (pc1 := 914) (L1 := [some (.ref 0), some (.ref 4), some (.ref 19), some (.int 0)]) (S1 := [.ref 19, .int (-1)]) zd0_913 rfl rfl rfl ?_
      refine z_e1 (pc1 := 915) (L1 := [some (.ref 0), some (.ref 4), some (.ref 19), some (.int 0)]) (S1 := [.ref 0, .ref 19, .int (-1)]) zd0_914 rfl rfl rfl ?_
      refine z_e1 (pc1 := 916) (L1 := [some (.ref 0), some (.ref 4), some (.ref 19), some (.int 0)]) (S1 := [.int 0, .ref 0, .ref 19, .int (-1)]) zd0_915 rfl rfl rfl ?_
      refine z_e1 (pc1 := 917) (L1 := [some (.ref 0), some (.ref 4), some (.ref 19), some (.int 0)]) (S1 := [.int 1, .int 0, .ref 0, .ref 19, .int (-1)]) zd0_916 rfl rfl rfl ?_
      refine z_e1 (pc1 := 918) (L1 := [some (.ref 0), some (.ref 4), some (.ref 19), some (.int 0)]) (S1 := [.int 1, .ref 0, .ref 19, .int (-1)]) zd0_917 rfl rfl rfl ?_
      refine z_eial (y := x1) zd0_918 h0 (by decide) g1 ?_
      refine z_e1 (pc1 := 920) (L1 := [some (.ref 0), some (.ref 4), some (.ref 19), some (.int 0)]) (S1 := [.ref 0, .int x1, .ref 19, .int (-1)]) zd0_919 rfl rfl rfl ?_
      refine z_e1 (pc1 := 921) (L1 := [some (.ref 0), some (.ref 4), some (.ref 19), some (.int 0)]) (S1 := [.int 0, .ref 0, .int x1, .ref 19, .int (-1)]) zd0_920 rfl rfl rfl ?_
      refine z_e1 (pc1 := 922) (L1 := [some (.ref 0), some (.ref 4), some (.ref 19), some (.int 0)]) (S1 := [.int 2, .int 0, .ref 0, .int x1, .ref 19, .int (-1)]) zd0_921 rfl rfl rfl ?_
      refine z_e1 (pc1 := 923) (L1 := [some (.ref 0), some (.ref 4), some (.ref 19), some (.int 0)]) (S1 := [.int 2, .ref 0, .int x1, .ref 19, .int (-1)]) zd0_922 rfl rfl rfl ?_
      refine z_eial (y := x2) zd0_923 h0 (by decide) g2 ?_
      refine z_e1 (pc1 := 925) (L1 := [some (.ref 0), some (.ref 4), some (.ref 19), some (.int 0)]) (S1 := [.ref 0, .int x2, .int x1, .ref 19, .int (-1)]) zd0_924 rfl rfl rfl ?_
      refine z_e1 (pc1 := 926) (L1 := [some (.ref 0), some (.ref 4), some (.ref 19), some (.int 0)]) (S1 := [.int 0, .ref 0, .int x2, .int x1, .ref 19, .int (-1)]) zd0_925 rfl rfl rfl ?_
      refine z_e1 (pc1 := 927) (L1 := [some (.ref 0), some (.ref 4), some (.ref 19), some (.int 0)]) (S1 := [.int 3, .int 0, .ref 0, .int x2, .int x1, .ref 19, .int (-1)]) zd0_926 rfl rfl rfl ?_
      refine z_e1 (pc1 := 928) (L1 := [some (.ref 0), some (.ref 4), some (.ref 19), some (.int 0)]) (S1 := [.int 3, .ref 0, .int x2, .int x1, .ref 19, .int (-1)]) zd0_927 rfl rfl rfl ?_
      refine z_eial (y := x3) zd0_928 h0 (by decide) g3 ?_
      refine z_ecV (vs := [.ref 19, .int x1, .int x2, .int x3]) (r := [.int (-1)]) (L2 := [some (.ref 19), some (.int x1), some (.int x2), some (.int x3)]) zd0_929 zcV0_93 (Or.inl rfl) rfl b19 (by decide) rfl rfl rfl (Nat.le_of_ble_eq_true rfl) zm238 (Nat.le_of_ble_eq_true rfl) rfl ?_
      refine z_e1 (pc1 := 1) (L1 := [some (.ref 19), some (.int x1), some (.int x2), some (.int x3)]) (S1 := [.ref 19]) zd238_0 rfl rfl rfl ?_
      refine z_e1 (pc1 := 2) (L1 := [some (.ref 19), some (.int x1), some (.int x2), some (.int x3)]) (S1 := [.int x1, .ref 19]) zd238_1 rfl rfl rfl ?_
      refine z_ecV (vs := [.ref 19, .int x1]) (r := []) (L2 := [some (.ref 19), some (.int x1)]) zd238_2 zcV238_272 (Or.inl rfl) rfl b19 (by decide) rfl rfl rfl (Nat.le_of_ble_eq_true rfl) zm237 (Nat.le_of_ble_eq_true rfl) rfl ?_
      refine z_e1 (pc1 := 1) (L1 := [some (.ref 19), some (.int x1)]) (S1 := [.int x1]) zd237_0 rfl rfl rfl ?_
      refine z_ez (t := 16) (t2 := 4) zd237_1 rfl (z_b_ltx0 (k := 0) (by decide) (show ¬ x1.toInt < 0 from by omega)) ?_
      refine z_e1 (pc1 := 5) (L1 := [some (.ref 19), some (.int x1)]) (S1 := [.int x1]) zd237_4 rfl rfl rfl ?_
      refine z_e1 (pc1 := 6) (L1 := [some (.ref 19), some (.int x1)]) (S1 := [.ref 19, .int x1]) zd237_5 rfl rfl rfl ?_
      refine z_egf (fs := [.ref 20, .int 0, .ref 21, .ref 22, .ref 23, .ref 24, .ref 25, .ref 26, .ref 27, .ref 28, .ref 29, .ref 30, .ref 31, .int 0, .ref 32, .ref 33, .ref 34, .ref 35, .ref 36, .ref 37, .ref 38, .int 0, .int 0, .int 0, .int 0, .int 0, .int 0, .int 0, .int 0, .int 0, .int 0, .ref 39, .ref 40, .ref 41, .int 0, .int 0, .ref 42, .ref 43, .ref 44, .ref 45, .ref 46, .int 0, .ref 47, .int 0, .int 0, .int 0, .ref 48, .int 0, .int 0, .ref 49, .ref 50, .ref 51, .ref 52]) (v := .int 0) zd237_6 zf237_269 b19 (by decide) (by decide) rfl ?_
      refine z_ej (t := 16) (t2 := 16) zd237_9 rfl (z_b_gex0 (k := 0) (by decide) (show ¬ x1.toInt < 0 from by omega)) ?_
      refine z_e1 (pc1 := 17) (L1 := [some (.ref 19), some (.int x1)]) (S1 := [.int 0]) zd237_16 rfl rfl rfl ?_
      refine z_erz zd237_17 zr237 (by decide) ?_
      show z_ev _ 238 5 [some (.ref 19), some (.int x1), some (.int x2), some (.int x3)] [.int 0] _ _
      refine z_ez (t := 28) (t2 := 28) zd238_5 rfl rfl ?_
      refine z_e1 (pc1 := 29) (L1 := [some (.ref 19), some (.int x1), some (.int x2), some (.int x3)]) (S1 := [.int (-1)]) zd238_28 rfl rfl rfl ?_
      refine z_eri zd238_29 zr238 ?_
      show z_ev _ 0 932 [some (.ref 0), some (.ref 4), some (.ref 19), some (.int 0)] [.int (-1), .int (-1)] _ _
      refine z_ej (t := 1775) (t2 := 1775) zd0_932 rfl rfl ?_
      refine z_e1 (pc1 := 1778) (L1 := [some (.ref 0), some (.ref 4), some (.ref 19), some (.int 6)]) (S1 := []) zd0_1775 rfl rfl rfl ?_
      refine z_e1 (pc1 := 18) (L1 := [some (.ref 0), some (.ref 4), some (.ref 19), some (.int 6)]) (S1 := []) zd0_1778 rfl rfl rfl ?_
      refine z_e1 (pc1 := 19) (L1 := [some (.ref 0), some (.ref 4), some (.ref 19), some (.int 6)]) (S1 := [.int 6]) zd0_18 rfl rfl rfl ?_
      refine z_e1 (pc1 := 20) (L1 := [some (.ref 0), some (.ref 4), some (.ref 19), some (.int 6)]) (S1 := [.ref 0, .int 6]) zd0_19 rfl rfl rfl ?_
      refine z_ealn (y := 6) zd0_20 h0 rfl ?_
      refine z_e1 (pc1 := 23) (L1 := [some (.ref 0), some (.ref 4), some (.ref 19), some (.int 6)]) (S1 := [.int 6, .int 6, .int 6]) zd0_21 rfl rfl rfl ?_
      refine z_e1 (pc1 := 24) (L1 := [some (.ref 0), some (.ref 4), some (.ref 19), some (.int 6)]) (S1 := [.int 0, .int 6]) zd0_23 rfl rfl rfl ?_
      refine z_ej (t := 1781) (t2 := 1781) zd0_24 rfl rfl ?_
      refine z_e1 (pc1 := 1782) (L1 := [some (.ref 0), some (.ref 4), some (.ref 19), some (.int 6)]) (S1 := [.int 1]) zd0_1781 rfl rfl rfl ?_
      refine z_erz zd0_1782 zr0 (by decide) ?_
      exact z_K1i hN hS (by decide) (by decide)
    · refine z_ez (t := 12) (t2 := 4) zd35_1 rfl (z_b_ltx0 (k := 0) (by decide) e3) ?_
      refine z_e1 (pc1 := 5) (L1 := [some (.ref 4), some (.int x2)]) (S1 := [.int x2]) zd35_4 rfl rfl rfl ?_
      refine z_e1 (pc1 := 6) (L1 := [some (.ref 4), some (.int x2)]) (S1 := [.ref 4, .int x2]) zd35_5 rfl rfl rfl ?_
      refine z_egf (fs := [.ref 5, .ref 10, .ref 11, .int 0, .ref 12, .int 0, .ref 13, .ref 14, .ref 15, .ref 16, .ref 17, .ref 18, .null]) (v := .int 0) zd35_6 zf35_59 b4 (by decide) (by decide) rfl ?_
      refine z_ej (t := 16) (t2 := 12) zd35_9 rfl (z_b_ltx0 (k := 0) (by decide) (show ¬ x2.toInt < 0 from by omega)) ?_
      refine z_e1 (pc1 := 13) (L1 := [some (.ref 4), some (.int x2)]) (S1 := [.null]) zd35_12 rfl rfl rfl ?_
      refine z_e1 (pc1 := 22) (L1 := [some (.ref 4), some (.int x2)]) (S1 := [.null]) zd35_13 rfl rfl rfl ?_
      refine z_ern zd35_22 zr35 ?_
      show z_ev _ 85 12 [some (.ref 4), some (.int x1), some (.int x2), some (.int x3), some (.null), none, none] [.null] _ _
      refine z_e1 (pc1 := 14) (L1 := [some (.ref 4), some (.int x1), some (.int x2), some (.int x3), some (.null), some (.null), none]) (S1 := []) zd85_12 rfl rfl rfl ?_
      refine z_e1 (pc1 := 16) (L1 := [some (.ref 4), some (.int x1), some (.int x2), some (.int x3), some (.null), some (.null), none]) (S1 := [.null]) zd85_14 rfl rfl rfl ?_
      refine z_e1 (pc1 := 33) (L1 := [some (.ref 4), some (.int x1), some (.int x2), some (.int x3), some (.null), some (.null), none]) (S1 := []) zd85_16 rfl rfl rfl ?_
      refine z_e1 (pc1 := 34) (L1 := [some (.ref 4), some (.int x1), some (.int x2), some (.int x3), some (.null), some (.null), none]) (S1 := [.int (-1)]) zd85_33 rfl rfl rfl ?_
      refine z_eri zd85_34 zr85 ?_
      show z_ev _ 0 913 [some (.ref 0), some (.ref 4), some (.ref 19), some (.int 0)] [.int (-1)] _ _
      refine z_e1 (pc1 := 914) (L1 := [some (.ref 0), some (.ref 4), some (.ref 19), some (.int 0)]) (S1 := [.ref 19, .int (-1)]) zd0_913 rfl rfl rfl ?_
      refine z_e1 (pc1 := 915) (L1 := [some (.ref 0), some (.ref 4), some (.ref 19), some (.int 0)]) (S1 := [.ref 0, .ref 19, .int (-1)]) zd0_914 rfl rfl rfl ?_
      refine z_e1 (pc1 := 916) (L1 := [some (.ref 0), some (.ref 4), some (.ref 19), some (.int 0)]) (S1 := [.int 0, .ref 0, .ref 19, .int (-1)]) zd0_915 rfl rfl rfl ?_
      refine z_e1 (pc1 := 917) (L1 := [some (.ref 0), some (.ref 4), some (.ref 19), some (.int 0)]) (S1 := [.int 1, .int 0, .ref 0, .ref 19, .int (-1)]) zd0_916 rfl rfl rfl ?_
      refine z_e1 (pc1 := 918) (L1 := [some (.ref 0), some (.ref 4), some (.ref 19), some (.int 0)]) (S1 := [.int 1, .ref 0, .ref 19, .int (-1)]) zd0_917 rfl rfl rfl ?_
      refine z_eial (y := x1) zd0_918 h0 (by decide) g1 ?_
      refine z_e1 (pc1 := 920) (L1 := [some (.ref 0), some (.ref 4), some (.ref 19), some (.int 0)]) (S1 := [.ref 0, .int x1, .ref 19, .int (-1)]) zd0_919 rfl rfl rfl ?_
      refine z_e1 (pc1 := 921) (L1 := [some (.ref 0), some (.ref 4), some (.ref 19), some (.int 0)]) (S1 := [.int 0, .ref 0, .int x1, .ref 19, .int (-1)]) zd0_920 rfl rfl rfl ?_
      refine z_e1 (pc1 := 922) (L1 := [some (.ref 0), some (.ref 4), some (.ref 19), some (.int 0)]) (S1 := [.int 2, .int 0, .ref 0, .int x1, .ref 19, .int (-1)]) zd0_921 rfl rfl rfl ?_
      refine z_e1 (pc1 := 923) (L1 := [some (.ref 0), some (.ref 4), some (.ref 19), some (.int 0)]) (S1 := [.int 2, .ref 0, .int x1, .ref 19, .int (-1)]) zd0_922 rfl rfl rfl ?_
      refine z_eial (y := x2) zd0_923 h0 (by decide) g2 ?_
      refine z_e1 (pc1 := 925) (L1 := [some (.ref 0), some (.ref 4), some (.ref 19), some (.int 0)]) (S1 := [.ref 0, .int x2, .int x1, .ref 19, .int (-1)]) zd0_924 rfl rfl rfl ?_
      refine z_e1 (pc1 := 926) (L1 := [some (.ref 0), some (.ref 4), some (.ref 19), some (.int 0)]) (S1 := [.int 0, .ref 0, .int x2, .int x1, .ref 19, .int (-1)]) zd0_925 rfl rfl rfl ?_
      refine z_e1 (pc1 := 927) (L1 := [some (.ref 0), some (.ref 4), some (.ref 19), some (.int 0)]) (S1 := [.int 3, .int 0, .ref 0, .int x2, .int x1, .ref 19, .int (-1)]) zd0_926 rfl rfl rfl ?_
      refine z_e1 (pc1 := 928) (L1 := [some (.ref 0), some (.ref 4), some (.ref 19), some (.int 0)]) (S1 := [.int 3, .ref 0, .int x2, .int x1, .ref 19, .int (-1)]) zd0_927 rfl rfl rfl ?_
      refine z_eial (y := x3) zd0_928 h0 (by decide) g3 ?_
      refine z_ecV (vs := [.ref 19, .int x1, .int x2, .int x3]) (r := [.int (-1)]) (L2 := [some (.ref 19), some (.int x1), some (.int x2), some (.int x3)]) zd0_929 zcV0_93 (Or.inl rfl) rfl b19 (by decide) rfl rfl rfl (Nat.le_of_ble_eq_true rfl) zm238 (Nat.le_of_ble_eq_true rfl) rfl ?_
      refine z_e1 (pc1 := 1) (L1 := [some (.ref 19), some (.int x1), some (.int x2), some (.int x3)]) (S1 := [.ref 19]) zd238_0 rfl rfl rfl ?_
      refine z_e1 (pc1 := 2) (L1 := [some (.ref 19), some (.int x1), some (.int x2), some (.int x3)]) (S1 := [.int x1, .ref 19]) zd238_1 rfl rfl rfl ?_
      refine z_ecV (vs := [.ref 19, .int x1]) (r := []) (L2 := [some (.ref 19), some (.int x1)]) zd238_2 zcV238_272 (Or.inl rfl) rfl b19 (by decide) rfl rfl rfl (Nat.le_of_ble_eq_true rfl) zm237 (Nat.le_of_ble_eq_true rfl) rfl ?_
      refine z_e1 (pc1 := 1) (L1 := [some (.ref 19), some (.int x1)]) (S1 := [.int x1]) zd237_0 rfl rfl rfl ?_
      refine z_ez (t := 16) (t2 := 4) zd237_1 rfl (z_b_ltx0 (k := 0) (by decide) (show ¬ x1.toInt < 0 from by omega)) ?_
      refine z_e1 (pc1 := 5) (L1 := [some (.ref 19), some (.int x1)]) (S1 := [.int x1]) zd237_4 rfl rfl rfl ?_
      refine z_e1 (pc1 := 6) (L1 := [some (.ref 19), some (.int x1)]) (S1 := [.ref 19, .int x1]) zd237_5 rfl rfl rfl ?_
      refine z_egf (fs := [.ref 20, .int 0, .ref 21, .ref 22, .ref 23, .ref 24, .ref 25, .ref 26, .ref 27, .ref 28, .ref 29, .ref 30, .ref 31, .int 0, .ref 32, .ref 33, .ref 34, .ref 35, .ref 36, .ref 37, .ref 38, .int 0, .int 0, .int 0, .int 0, .int 0, .int 0, .int 0, .int 0, .int 0, .int 0, .ref 39, .ref 40, .ref 41, .int 0, .int 0, .ref 42, .ref 43, .ref 44, .ref 45, .ref 46, .int 0, .ref 47, .int 0, .int 0, .int 0, .ref 48, .int 0, .int 0, .ref 49, .ref 50, .ref 51, .ref 52]) (v := .int 0) zd237_6 zf237_269 b19 (by decide) (by decide) rfl ?_
      refine z_ej (t := 16) (t2 := 16) zd237_9 rfl (z_b_gex0 (k := 0) (by decide) (show ¬ x1.toInt < 0 from by omega)) ?_
      refine z_e1 (pc1 := 17) (L1 := [some (.ref 19), some (.int x1)]) (S1 := [.int 0]) zd237_16 rfl rfl rfl ?_
      refine z_erz zd237_17 zr237 (by decide) ?_
      show z_ev _ 238 5 [some (.ref 19), some (.int x1), some (.int x2), some (.int x3)] [.int 0] _ _
      refine z_ez (t := 28) (t2 := 28) zd238_5 rfl rfl ?_
      refine z_e1 (pc1 := 29) (L1 := [some (.ref 19), some (.int x1), some (.int x2), some (.int x3)]) (S1 := [.int (-1)]) zd238_28 rfl rfl rfl ?_
      refine z_eri zd238_29 zr238 ?_
      show z_ev _ 0 932 [some (.ref 0), some (.ref 4), some (.ref 19), some (.int 0)] [.int (-1), .int (-1)] _ _
      refine z_ej (t := 1775) (t2 := 1775) zd0_932 rfl rfl ?_
      refine z_e1 (pc1 := 1778) (L1 := [some (.ref 0), some (.ref 4), some (.ref 19), some (.int 6)]) (S1 := []) zd0_1775 rfl rfl rfl ?_
      refine z_e1 (pc1 := 18) (L1 := [some (.ref 0), some (.ref 4), some (.ref 19), some (.int 6)]) (S1 := []) zd0_1778 rfl rfl rfl ?_
      refine z_e1 (pc1 := 19) (L1 := [some (.ref 0), some (.ref 4), some (.ref 19), some (.int 6)]) (S1 := [.int 6]) zd0_18 rfl rfl rfl ?_
      refine z_e1 (pc1 := 20) (L1 := [some (.ref 0), some (.ref 4), some (.ref 19), some (.int 6)]) (S1 := [.ref 0, .int 6]) zd0_19 rfl rfl rfl ?_
      refine z_ealn (y := 6) zd0_20 h0 rfl ?_
      refine z_e1 (pc1 := 23) (L1 := [some (.ref 0), some (.ref 4), some (.ref 19), some (.int 6)]) (S1 := [.int 6, .int 6, .int 6]) zd0_21 rfl rfl rfl ?_
      refine z_e1 (pc1 := 24) (L1 := [some (.ref 0), some (.ref 4), some (.ref 19), some (.int 6)]) (S1 := [.int 0, .int 6]) zd0_23 rfl rfl rfl ?_
      refine z_ej (t := 1781) (t2 := 1781) zd0_24 rfl rfl ?_
      refine z_e1 (pc1 := 1782) (L1 := [some (.ref 0), some (.ref 4), some (.ref 19), some (.int 6)]) (S1 := [.int 1]) zd0_1781 rfl rfl rfl ?_
      refine z_erz zd0_1782 zr0 (by decide) ?_
      exact z_K1i hN hS (by decide) (by decide)
theorem z_C19 {M : zH} {xs : Nat → Int32} {x1 x2 x3 x4 x5 : Int32} (h0 : M[0]? = some (.inl (0, 6, .inl xs))) (hN : M.length = 53) (hS : z_sz M ≤ 50000) (hB : z_fr M 4 53) (g1 : xs 1 = x1) (g2 : xs 2 = x2) (g3 : xs 3 = x3) (g4 : xs 4 = x4) (g5 : xs 5 = x5) : z_ev 2047 0 937 [some (.ref 0), some (.ref 4), some (.ref 19), some (.int 0)] [] M z_K1 := by
  have b4 := z_qO (hB 4 (by decide) (by decide))
  have b19 := z_qO (hB 19 (by decide) (by decide))
  refine z_e1 (pc1 := 938) (L1 := [some (.ref 0), some (.ref 4), some (.ref 19), some (.int 0)]) (S1 := [.ref 4]) zd0_937 rfl rfl rfl ?_
  refine z_e1 (pc1 := 939) (L1 := [some (.ref 0), some (.ref 4), some (.ref 19), some (.int 0)]) (S1 := [.ref 0, .ref 4]) zd0_938 rfl rfl rfl ?_
  refine z_e1 (pc1 := 940) (L1 := [some (.ref 0), some (.ref 4), some (.ref 19), some (.int 0)]) (S1 := [.int 0, .ref 0, .ref 4]) zd0_939 rfl rfl rfl ?_
  refine z_e1 (pc1 := 941) (L1 := [some (.ref 0), some (.ref 4), some (.ref 19), some (.int 0)]) (S1 := [.int 1, .int 0, .ref 0, .ref 4]) zd0_940 rfl rfl rfl ?_
  refine z_e1 (pc1 := 942) (L1 := [some (.ref 0), some (.ref 4), some (.ref 19), some (.int 0)]) (S1 := [.int 1, .ref 0, .ref 4]) zd0_941 rfl rfl rfl ?_
  refine z_eial (y := x1) zd0_942 h0 (by decide) g1 ?_
  refine z_e1 (pc1 := 944) (L1 := [some (.ref 0), some (.ref 4), some (.ref 19), some (.int 0)]) (S1 := [.ref 0, .int x1, .ref 4]) zd0_943 rfl rfl rfl ?_
  refine z_e1 (pc1 := 945) (L1 := [some (.ref 0), some (.ref 4), some (.ref 19), some (.int 0)]) (S1 := [.int 0, .ref 0, .int x1, .ref 4]) zd0_944 rfl rfl rfl ?_
  refine z_e1 (pc1 := 946) (L1 := [some (.ref 0), some (.ref 4), some (.ref 19), some (.int 0)]) (S1 := [.int 2, .int 0, .ref 0, .int x1, .ref 4]) zd0_945 rfl rfl rfl ?_
  refine z_e1 (pc1 := 947) (L1 := [some (.ref 0), some (.ref 4), some (.ref 19), some (.int 0)]) (S1 := [.int 2, .ref 0, .int x1, .ref 4]) zd0_946 rfl rfl rfl ?_
  refine z_eial (y := x2) zd0_947 h0 (by decide) g2 ?_
  refine z_ecV (vs := [.ref 4, .int x1, .int x2]) (r := []) (L2 := [some (.ref 4), some (.int x1), some (.int x2), none]) zd0_948 zcV0_94 (Or.inl rfl) rfl b4 (by decide) rfl rfl rfl (Nat.le_of_ble_eq_true rfl) zm102 (Nat.le_of_ble_eq_true rfl) rfl ?_
  refine z_e1 (pc1 := 1) (L1 := [some (.ref 4), some (.int x1), some (.int x2), none]) (S1 := [.ref 4]) zd102_0 rfl rfl rfl ?_
  refine z_e1 (pc1 := 2) (L1 := [some (.ref 4), some (.int x1), some (.int x2), none]) (S1 := [.int x1, .ref 4]) zd102_1 rfl rfl rfl ?_
  refine z_e1 (pc1 := 3) (L1 := [some (.ref 4), some (.int x1), some (.int x2), none]) (S1 := [.int x2, .int x1, .ref 4]) zd102_2 rfl rfl rfl ?_
  refine z_ecV (vs := [.ref 4, .int x1, .int x2]) (r := []) (L2 := [some (.ref 4), some (.int x1), some (.int x2), none]) zd102_3 zcV102_241 (Or.inl rfl) rfl b4 (by decide) rfl rfl rfl (Nat.le_of_ble_eq_true rfl) zm103 (Nat.le_of_ble_eq_true rfl) rfl ?_
  refine z_e1 (pc1 := 1) (L1 := [some (.ref 4), some (.int x1), some (.int x2), none]) (S1 := [.ref 4]) zd103_0 rfl rfl rfl ?_
  refine z_e1 (pc1 := 2) (L1 := [some (.ref 4), some (.int x1), some (.int x2), none]) (S1 := [.int x1, .ref 4]) zd103_1 rfl rfl rfl ?_
  refine z_ecV (vs := [.ref 4, .int x1]) (r := []) (L2 := [some (.ref 4), some (.int x1)]) zd103_2 zcV103_108 (Or.inl rfl) rfl b4 (by decide) rfl rfl rfl (Nat.le_of_ble_eq_true rfl) zm37 (Nat.le_of_ble_eq_true rfl) rfl ?_
  refine z_e1 (pc1 := 1) (L1 := [some (.ref 4), some (.int x1)]) (S1 := [.int x1]) zd37_0 rfl rfl rfl ?_
  by_cases e1 : x1.toInt < 0
  · refine z_ez (t := 12) (t2 := 12) zd37_1 rfl (z_b_ltx1 (k := 0) (by decide) e1) ?_
    refine z_e1 (pc1 := 13) (L1 := [some (.ref 4), some (.int x1)]) (S1 := [.null]) zd37_12 rfl rfl rfl ?_
    refine z_e1 (pc1 := 25) (L1 := [some (.ref 4), some (.int x1)]) (S1 := [.null]) zd37_13 rfl rfl rfl ?_
    refine z_ern zd37_25 zr37 ?_
    show z_ev _ 103 5 [some (.ref 4), some (.int x1), some (.int x2), none] [.null] _ _
    refine z_e1 (pc1 := 6) (L1 := [some (.ref 4), some (.int x1), some (.int x2), some (.null)]) (S1 := []) zd103_5 rfl rfl rfl ?_
    refine z_e1 (pc1 := 7) (L1 := [some (.ref 4), some (.int x1), some (.int x2), some (.null)]) (S1 := [.null]) zd103_6 rfl rfl rfl ?_
    refine z_e1 (pc1 := 20) (L1 := [some (.ref 4), some (.int x1), some (.int x2), some (.null)]) (S1 := []) zd103_7 rfl rfl rfl ?_
    refine z_e1 (pc1 := 21) (L1 := [some (.ref 4), some (.int x1), some (.int x2), some (.null)]) (S1 := [.int (-1)]) zd103_20 rfl rfl rfl ?_
    refine z_eri zd103_21 zr103 ?_
    show z_ev _ 102 6 [some (.ref 4), some (.int x1), some (.int x2), none] [.int (-1)] _ _
    refine z_e1 (pc1 := 7) (L1 := [some (.ref 4), some (.int x1), some (.int x2), some (.int (-1))]) (S1 := []) zd102_6 rfl rfl rfl ?_
    refine z_e1 (pc1 := 8) (L1 := [some (.ref 4), some (.int x1), some (.int x2), some (.int (-1))]) (S1 := [.int (-1)]) zd102_7 rfl rfl rfl ?_
    refine z_ez (t := 13) (t2 := 11) zd102_8 rfl rfl ?_
    refine z_e1 (pc1 := 12) (L1 := [some (.ref 4), some (.int x1), some (.int x2), some (.int (-1))]) (S1 := [.int (-1)]) zd102_11 rfl rfl rfl ?_
    refine z_eri zd102_12 zr102 ?_
    show z_ev _ 0 951 [some (.ref 0), some (.ref 4), some (.ref 19), some (.int 0)] [.int (-1)] _ _
    refine z_e1 (pc1 := 952) (L1 := [some (.ref 0), some (.ref 4), some (.ref 19), some (.int 0)]) (S1 := [.ref 19, .int (-1)]) zd0_951 rfl rfl rfl ?_
    refine z_e1 (pc1 := 953) (L1 := [some (.ref 0), some (.ref 4), some (.ref 19), some (.int 0)]) (S1 := [.ref 0, .ref 19, .int (-1)]) zd0_952 rfl rfl rfl ?_
    refine z_e1 (pc1 := 954) (L1 := [some (.ref 0), some (.ref 4), some (.ref 19), some (.int 0)]) (S1 := [.int 0, .ref 0, .ref 19, .int (-1)]) zd0_953 rfl rfl rfl ?_
    refine z_e1 (pc1 := 955) (L1 := [some (.ref 0), some (.ref 4), some (.ref 19), some (.int 0)]) (S1 := [.int 1, .int 0, .ref 0, .ref 19, .int (-1)]) zd0_954 rfl rfl rfl ?_
    refine z_e1 (pc1 := 956) (L1 := [some (.ref 0), some (.ref 4), some (.ref 19), some (.int 0)]) (S1 := [.int 1, .ref 0, .ref 19, .int (-1)]) zd0_955 rfl rfl rfl ?_
    refine z_eial (y := x1) zd0_956 h0 (by decide) g1 ?_
    refine z_e1 (pc1 := 958) (L1 := [some (.ref 0), some (.ref 4), some (.ref 19), some (.int 0)]) (S1 := [.ref 0, .int x1, .ref 19, .int (-1)]) zd0_957 rfl rfl rfl ?_
    refine z_e1 (pc1 := 959) (L1 := [some (.ref 0), some (.ref 4), some (.ref 19), some (.int 0)]) (S1 := [.int 0, .ref 0, .int x1, .ref 19, .int (-1)]) zd0_958 rfl rfl rfl ?_
    refine z_e1 (pc1 := 960) (L1 := [some (.ref 0), some (.ref 4), some (.ref 19), some (.int 0)]) (S1 := [.int 2, .int 0, .ref 0, .int x1, .ref 19, .int (-1)]) zd0_959 rfl rfl rfl ?_
    refine z_e1 (pc1 := 961) (L1 := [some (.ref 0), some (.ref 4), some (.ref 19), some (.int 0)]) (S1 := [.int 2, .ref 0, .int x1, .ref 19, .int (-1)]) zd0_960 rfl rfl rfl ?_
    refine z_eial (y := x2) zd0_961 h0 (by decide) g2 ?_
    refine z_ecV (vs := [.ref 19, .int x1, .int x2]) (r := [.int (-1)]) (L2 := [some (.ref 19), some (.int x1), some (.int x2), none, none, none]) zd0_962 zcV0_97 (Or.inl rfl) rfl b19 (by decide) rfl rfl rfl (Nat.le_of_ble_eq_true rfl) zm250 (Nat.le_of_ble_eq_true rfl) rfl ?_
    refine z_e1 (pc1 := 1) (L1 := [some (.ref 19), some (.int x1), some (.int x2), none, none, none]) (S1 := [.ref 19]) zd250_0 rfl rfl rfl ?_
    refine z_e1 (pc1 := 2) (L1 := [some (.ref 19), some (.int x1), some (.int x2), none, none, none]) (S1 := [.int x1, .ref 19]) zd250_1 rfl rfl rfl ?_
    refine z_e1 (pc1 := 3) (L1 := [some (.ref 19), some (.int x1), some (.int x2), none, none, none]) (S1 := [.int x2, .int x1, .ref 19]) zd250_2 rfl rfl rfl ?_
    refine z_ecV (vs := [.ref 19, .int x1, .int x2]) (r := []) (L2 := [some (.ref 19), some (.int x1), some (.int x2)]) zd250_3 zcV250_320 (Or.inl rfl) rfl b19 (by decide) rfl rfl rfl (Nat.le_of_ble_eq_true rfl) zm251 (Nat.le_of_ble_eq_true rfl) rfl ?_
    refine z_e1 (pc1 := 1) (L1 := [some (.ref 19), some (.int x1), some (.int x2)]) (S1 := [.ref 19]) zd251_0 rfl rfl rfl ?_
    refine z_e1 (pc1 := 2) (L1 := [some (.ref 19), some (.int x1), some (.int x2)]) (S1 := [.int x1, .ref 19]) zd251_1 rfl rfl rfl ?_
    refine z_ecV (vs := [.ref 19, .int x1]) (r := []) (L2 := [some (.ref 19), some (.int x1)]) zd251_2 zcV251_209 (Or.inl rfl) rfl b19 (by decide) rfl rfl rfl (Nat.le_of_ble_eq_true rfl) zm209 (Nat.le_of_ble_eq_true rfl) rfl ?_
    refine z_e1 (pc1 := 1) (L1 := [some (.ref 19), some (.int x1)]) (S1 := [.int x1]) zd209_0 rfl rfl rfl ?_
    refine z_ez (t := 16) (t2 := 16) zd209_1 rfl (z_b_ltx1 (k := 0) (by decide) (show x1.toInt < 0 from by omega)) ?_
    refine z_e1 (pc1 := 17) (L1 := [some (.ref 19), some (.int x1)]) (S1 := [.int 0]) zd209_16 rfl rfl rfl ?_
    refine z_erz zd209_17 zr209 (by decide) ?_
    show z_ev _ 251 5 [some (.ref 19), some (.int x1), some (.int x2)] [.int 0] _ _
    refine z_ez (t := 20) (t2 := 20) zd251_5 rfl rfl ?_
    refine z_e1 (pc1 := 21) (L1 := [some (.ref 19), some (.int x1), some (.int x2)]) (S1 := [.int (-1)]) zd251_20 rfl rfl rfl ?_
    refine z_eri zd251_21 zr251 ?_
    show z_ev _ 250 6 [some (.ref 19), some (.int x1), some (.int x2), none, none, none] [.int (-1)] _ _
    refine z_e1 (pc1 := 7) (L1 := [some (.ref 19), some (.int x1), some (.int x2), some (.int (-1)), none, none]) (S1 := []) zd250_6 rfl rfl rfl ?_
    refine z_e1 (pc1 := 8) (L1 := [some (.ref 19), some (.int x1), some (.int x2), some (.int (-1)), none, none]) (S1 := [.int (-1)]) zd250_7 rfl rfl rfl ?_
    refine z_ez (t := 13) (t2 := 11) zd250_8 rfl rfl ?_
    refine z_e1 (pc1 := 12) (L1 := [some (.ref 19), some (.int x1), some (.int x2), some (.int (-1)), none, none]) (S1 := [.int (-1)]) zd250_11 rfl rfl rfl ?_
    refine z_eri zd250_12 zr250 ?_
    show z_ev _ 0 965 [some (.ref 0), some (.ref 4), some (.ref 19), some (.int 0)] [.int (-1), .int (-1)] _ _
    refine z_ej (t := 1775) (t2 := 1775) zd0_965 rfl rfl ?_
    refine z_e1 (pc1 := 1778) (L1 := [some (.ref 0), some (.ref 4), some (.ref 19), some (.int 6)]) (S1 := []) zd0_1775 rfl rfl rfl ?_
    refine z_e1 (pc1 := 18) (L1 := [some (.ref 0), some (.ref 4), some (.ref 19), some (.int 6)]) (S1 := []) zd0_1778 rfl rfl rfl ?_
    refine z_e1 (pc1 := 19) (L1 := [some (.ref 0), some (.ref 4), some (.ref 19), some (.int 6)]) (S1 := [.int 6]) zd0_18 rfl rfl rfl ?_
    refine z_e1 (pc1 := 20) (L1 := [some (.ref 0), some (.ref 4), some (.ref 19), some (.int 6)]) (S1 := [.ref 0, .int 6]) zd0_19 rfl rfl rfl ?_
    refine z_ealn (y := 6) zd0_20 h0 rfl ?_
    refine z_e1 (pc1 := 23) (L1 := [some (.ref 0), some (.ref 4), some (.ref 19), some (.int 6)]) (S1 := [.int 6, .int 6, .int 6]) zd0_21 rfl rfl rfl ?_
    refine z_e1 (pc1 := 24) (L1 := [some (.ref 0), some (.ref 4), some (.ref 19), some (.int 6)]) (S1 := [.int 0, .int 6]) zd0_23 rfl rfl rfl ?_
    refine z_ej (t := 1781) (t2 := 1781) zd0_24 rfl rfl ?_
    refine z_e1 (pc1 := 1782) (L1 := [some (.ref 0), some (.ref 4), some (.ref 19), some (.int 6)]) (S1 := [.int 1]) zd0_1781 rfl rfl rfl ?_
    refine z_erz zd0_1782 zr0 (by decide) ?_
    exact z_K1i hN hS (by decide) (by decide)
  · refine z_ez (t := 12) (t2 := 4) zd37_1 rfl (z_b_ltx0 (k := 0) (by decide) e1) ?_
    refine z_e1 (pc1 := 5) (L1 := [some (.ref 4), some (.int x1)]) (S1 := [.int x1]) zd37_4 rfl rfl rfl ?_
    refine z_e1 (pc1 := 6) (L1 := [some (.ref 4), some (.int x1)]) (S1 := [.ref 4, .int x1]) zd37_5 rfl rfl rfl ?_
    refine z_egf (fs := [.ref 5, .ref 10, .ref 11, .int 0, .ref 12, .int 0, .ref 13, .ref 14, .ref 15, .ref 16, .ref 17, .ref 18, .null]) (v := .int 0) zd37_6 zf37_59 b4 (by decide) (by decide) rfl ?_
    refine z_ej (t := 16) (t2 := 12) zd37_9 rfl (z_b_ltx0 (k := 0) (by decide) (show ¬ x1.toInt < 0 from by omega)) ?_
    refine z_e1 (pc1 := 13) (L1 := [some (.ref 4), some (.int x1)]) (S1 := [.null]) zd37_12 rfl rfl rfl ?_
    refine z_e1 (pc1 := 25) (L1 := [some (.ref 4), some (.int x1)]) (S1 := [.null]) zd37_13 rfl rfl rfl ?_
    refine z_ern zd37_25 zr37 ?_
    show z_ev _ 103 5 [some (.ref 4), some (.int x1), some (.int x2), none] [.null] _ _
    refine z_e1 (pc1 := 6) (L1 := [some (.ref 4), some (.int x1), some (.int x2), some (.null)]) (S1 := []) zd103_5 rfl rfl rfl ?_
    refine z_e1 (pc1 := 7) (L1 := [some (.ref 4), some (.int x1), some (.int x2), some (.null)]) (S1 := [.null]) zd103_6 rfl rfl rfl ?_
    refine z_e1 (pc1 := 20) (L1 := [some (.ref 4), some (.int x1), some (.int x2), some (.null)]) (S1 := []) zd103_7 rfl rfl rfl ?_
    refine z_e1 (pc1 := 21) (L1 := [some (.ref 4), some (.int x1), some (.int x2), some (.null)]) (S1 := [.int (-1)]) zd103_20 rfl rfl rfl ?_
    refine z_eri zd103_21 zr103 ?_
    show z_ev _ 102 6 [some (.ref 4), some (.int x1), some (.int x2), none] [.int (-1)] _ _
    refine z_e1 (pc1 := 7) (L1 := [some (.ref 4), some (.int x1), some (.int x2), some (.int (-1))]) (S1 := []) zd102_6 rfl rfl rfl ?_
    refine z_e1 (pc1 := 8) (L1 := [some (.ref 4), some (.int x1), some (.int x2), some (.int (-1))]) (S1 := [.int (-1)]) zd102_7 rfl rfl rfl ?_
    refine z_ez (t := 13) (t2 := 11) zd102_8 rfl rfl ?_
    refine z_e1 (pc1 := 12) (L1 := [some (.ref 4), some (.int x1), some (.int x2), some (.int (-1))]) (S1 := [.int (-1)]) zd102_11 rfl rfl rfl ?_
    refine z_eri zd102_12 zr102 ?_
    show z_ev _ 0 951 [some (.ref 0), some (.ref 4), some (.ref 19), some (.int 0)] [.int (-1)] _ _
    refine z_e1 (pc1 := 952) (L1 := [some (.ref 0), some (.ref 4), some (.ref 19), some (.int 0)]) (S1 := [.ref 19, .int (-1)]) zd0_951 rfl rfl rfl ?_
    refine z_e1 (pc1 := 953) (L1 := [some (.ref 0), some (.ref 4), some (.ref 19), some (.int 0)]) (S1 := [.ref 0, .ref 19, .int (-1)]) zd0_952 rfl rfl rfl ?_
    refine z_e1 (pc1 := 954) (L1 := [some (.ref 0), some (.ref 4), some (.ref 19), some (.int 0)]) (S1 := [.int 0, .ref 0, .ref 19, .int (-1)]) zd0_953 rfl rfl rfl ?_
    refine z_e1 (pc1 := 955) (L1 := [some (.ref 0), some (.ref 4), some (.ref 19), some (.int 0)]) (S1 := [.int 1, .int 0, .ref 0, .ref 19, .int (-1)]) zd0_954 rfl rfl rfl ?_
    refine z_e1 (pc1 := 956) (L1 := [some (.ref 0), some (.ref 4), some (.ref 19), some (.int 0)]) (S1 := [.int 1, .ref 0, .ref 19, .int (-1)]) zd0_955 rfl rfl rfl ?_
    refine z_eial (y := x1) zd0_956 h0 (by decide) g1 ?_
    refine z_e1 (pc1 := 958) (L1 := [some (.ref 0), some (.ref 4), some (.ref 19), some (.int 0)]) (S1 := [.ref 0, .int x1, .ref 19, .int (-1)]) zd0_957 rfl rfl rfl ?_
    refine z_e1 (pc1 := 959) (L1 := [some (.ref 0), some (.ref 4), some (.ref 19), some (.int 0)]) (S1 := [.int 0, .ref 0, .int x1, .ref 19, .int (-1)]) zd0_958 rfl rfl rfl ?_
    refine z_e1 (pc1 := 960) (L1 := [some (.ref 0), some (.ref 4), some (.ref 19), some (.int 0)]) (S1 := [.int 2, .int 0, .ref 0, .int x1, .ref 19, .int (-1)]) zd0_959 rfl rfl rfl ?_
    refine z_e1 (pc1 := 961) (L1 := [some (.ref 0), some (.ref 4), some (.ref 19), some (.int 0)]) (S1 := [.int 2, .ref 0, .int x1, .ref 19, .int (-1)]) zd0_960 rfl rfl rfl ?_
    refine z_eial (y := x2) zd0_961 h0 (by decide) g2 ?_
    refine z_ecV (vs := [.ref 19, .int x1, .int x2]) (r := [.int (-1)]) (L2 := [some (.ref 19), some (.int x1), some (.int x2), none, none, none]) zd0_962 zcV0_97 (Or.inl rfl) rfl b19 (by decide) rfl rfl rfl (Nat.le_of_ble_eq_true rfl) zm250 (Nat.le_of_ble_eq_true rfl) rfl ?_
    refine z_e1 (pc1 := 1) (L1 := [some (.ref 19), some (.int x1), some (.int x2), none, none, none]) (S1 := [.ref 19]) zd250_0 rfl rfl rfl ?_
    refine z_e1 (pc1 := 2) (L1 := [some (.ref 19), some (.int x1), some (.int x2), none, none, none]) (S1 := [.int x1, .ref 19]) zd250_1 rfl rfl rfl ?_
    refine z_e1 (pc1 := 3) (L1 := [some (.ref 19), some (.int x1), some (.int x2), none, none, none]) (S1 := [.int x2, .int x1, .ref 19]) zd250_2 rfl rfl rfl ?_
    refine z_ecV (vs := [.ref 19, .int x1, .int x2]) (r := []) (L2 := [some (.ref 19), some (.int x1), some (.int x2)]) zd250_3 zcV250_320 (Or.inl rfl) rfl b19 (by decide) rfl rfl rfl (Nat.le_of_ble_eq_true rfl) zm251 (Nat.le_of_ble_eq_true rfl) rfl ?_
    refine z_e1 (pc1 := 1) (L1 := [some (.ref 19), some (.int x1), some (.int x2)]) (S1 := [.ref 19]) zd251_0 rfl rfl rfl ?_
    refine z_e1 (pc1 := 2) (L1 := [some (.ref 19), some (.int x1), some (.int x2)]) (S1 := [.int x1, .ref 19]) zd251_1 rfl rfl rfl ?_
    refine z_ecV (vs := [.ref 19, .int x1]) (r := []) (L2 := [some (.ref 19), some (.int x1)]) zd251_2 zcV251_209 (Or.inl rfl) rfl b19 (by decide) rfl rfl rfl (Nat.le_of_ble_eq_true rfl) zm209 (Nat.le_of_ble_eq_true rfl) rfl ?_
    refine z_e1 (pc1 := 1) (L1 := [some (.ref 19), some (.int x1)]) (S1 := [.int x1]) zd209_0 rfl rfl rfl ?_
    refine z_ez (t := 16) (t2 := 4) zd209_1 rfl (z_b_ltx0 (k := 0) (by decide) (show ¬ x1.toInt < 0 from by omega)) ?_
    refine z_e1 (pc1 := 5) (L1 := [some (.ref 19), some (.int x1)]) (S1 := [.int x1]) zd209_4 rfl rfl rfl ?_
    refine z_e1 (pc1 := 6) (L1 := [some (.ref 19), some (.int x1)]) (S1 := [.ref 19, .int x1]) zd209_5 rfl rfl rfl ?_
    refine z_egf (fs := [.ref 20, .int 0, .ref 21, .ref 22, .ref 23, .ref 24, .ref 25, .ref 26, .ref 27, .ref 28, .ref 29, .ref 30, .ref 31, .int 0, .ref 32, .ref 33, .ref 34, .ref 35, .ref 36, .ref 37, .ref 38, .int 0, .int 0, .int 0, .int 0, .int 0, .int 0, .int 0, .int 0, .int 0, .int 0, .ref 39, .ref 40, .ref 41, .int 0, .int 0, .ref 42, .ref 43, .ref 44, .ref 45, .ref 46, .int 0, .ref 47, .int 0, .int 0, .int 0, .ref 48, .int 0, .int 0, .ref 49, .ref 50, .ref 51, .ref 52]) (v := .int 0) zd209_6 zf209_110 b19 (by decide) (by decide) rfl ?_
    refine z_ej (t := 16) (t2 := 16) zd209_9 rfl (z_b_gex0 (k := 0) (by decide) (show ¬ x1.toInt < 0 from by omega)) ?_
    refine z_e1 (pc1 := 17) (L1 := [some (.ref 19), some (.int x1)]) (S1 := [.int 0]) zd209_16 rfl rfl rfl ?_
    refine z_erz zd209_17 zr209 (by decide) ?_
    show z_ev _ 251 5 [some (.ref 19), some (.int x1), some (.int x2)] [.int 0] _ _
    refine z_ez (t := 20) (t2 := 20) zd251_5 rfl rfl ?_
    refine z_e1 (pc1 := 21) (L1 := [some (.ref 19), some (.int x1), some (.int x2)]) (S1 := [.int (-1)]) zd251_20 rfl rfl rfl ?_
    refine z_eri zd251_21 zr251 ?_
    show z_ev _ 250 6 [some (.ref 19), some (.int x1), some (.int x2), none, none, none] [.int (-1)] _ _
    refine z_e1 (pc1 := 7) (L1 := [some (.ref 19), some (.int x1), some (.int x2), some (.int (-1)), none, none]) (S1 := []) zd250_6 rfl rfl rfl ?_
    refine z_e1 (pc1 := 8) (L1 := [some (.ref 19), some (.int x1), some (.int x2), some (.int (-1)), none, none]) (S1 := [.int (-1)]) zd250_7 rfl rfl rfl ?_
    refine z_ez (t := 13) (t2 := 11) zd250_8 rfl rfl ?_
    refine z_e1 (pc1 := 12) (L1 := [some (.ref 19), some (.int x1), some (.int x2), some (.int (-1)), none, none]) (S1 := [.int (-1)]) zd250_11 rfl rfl rfl ?_
    refine z_eri zd250_12 zr250 ?_
    show z_ev _ 0 965 [some (.ref 0), some (.ref 4), some (.ref 19), some (.int 0)] [.int (-1), .int (-1)] _ _
    refine z_ej (t := 1775) (t2 := 1775) zd0_965 rfl rfl ?_
    refine z_e1 (pc1 := 1778) (L1 := [some (.ref 0), some (.ref 4), some (.ref 19), some (.int 6)]) (S1 := []) zd0_1775 rfl rfl rfl ?_
    refine z_e1 (pc1 := 18) (L1 := [some (.ref 0), some (.ref 4), some (.ref 19), some (.int 6)]) (S1 := []) zd0_1778 rfl rfl rfl ?_
    refine z_e1 (pc1 := 19) (L1 := [some (.ref 0), some (.ref 4), some (.ref 19), some (.int 6)]) (S1 := [.int 6]) zd0_18 rfl rfl rfl ?_
    refine z_e1 (pc1 := 20) (L1 := [some (.ref 0), some (.ref 4), some (.ref 19), some (.int 6)]) (S1 := [.ref 0, .int 6]) zd0_19 rfl rfl rfl ?_
    refine z_ealn (y := 6) zd0_20 h0 rfl ?_
    refine z_e1 (pc1 := 23) (L1 := [some (.ref 0), some (.ref 4), some (.ref 19), some (.int 6)]) (S1 := [.int 6, .int 6, .int 6]) zd0_21 rfl rfl rfl ?_
    refine z_e1 (pc1 := 24) (L1 := [some (.ref 0), some (.ref 4), some (.ref 19), some (.int 6)]) (S1 := [.int 0, .int 6]) zd0_23 rfl rfl rfl ?_
    refine z_ej (t := 1781) (t2 := 1781) zd0_24 rfl rfl ?_
    refine z_e1 (pc1 := 1782) (L1 := [some (.ref 0), some (.ref 4), some (.ref 19), some (.int 6)]) (S1 := [.int 1]) zd0_1781 rfl rfl rfl ?_
    refine z_erz zd0_1782 zr0 (by decide) ?_
    exact z_K1i hN hS (by decide) (by decide)
theorem z_C20 {M : zH} {xs : Nat → Int32} {x1 x2 x3 x4 x5 : Int32} (h0 : M[0]? = some (.inl (0, 6, .inl xs))) (hN : M.length = 53) (hS : z_sz M ≤ 50000) (hB : z_fr M 4 53) (g1 : xs 1 = x1) (g2 : xs 2 = x2) (g3 : xs 3 = x3) (g4 : xs 4 = x4) (g5 : xs 5 = x5) : z_ev 2047 0 970 [some (.ref 0), some (.ref 4), some (.ref 19), some (.int 0)] [] M z_K1 := by
  have b4 := z_qO (hB 4 (by decide) (by decide))
  have b19 := z_qO (hB 19 (by decide) (by decide))
  refine z_e1 (pc1 := 971) (L1 := [some (.ref 0), some (.ref 4), some (.ref 19), some (.int 0)]) (S1 := [.ref 4]) zd0_970 rfl rfl rfl ?_
  refine z_e1 (pc1 := 972) (L1 := [some (.ref 0), some (.ref 4), some (.ref 19), some (.int 0)]) (S1 := [.ref 0, .ref 4]) zd0_971 rfl rfl rfl ?_
  refine z_e1 (pc1 := 973) (L1 := [some (.ref 0), some (.ref 4), some (.ref 19), some (.int 0)]) (S1 := [.int 0, .ref 0, .ref 4]) zd0_972 rfl rfl rfl ?_
  refine z_e1 (pc1 := 974) (L1 := [some (.ref 0), some (.ref 4), some (.ref 19), some (.int 0)]) (S1 := [.int 1, .int 0, .ref 0, .ref 4]) zd0_973 rfl rfl rfl ?_
  refine z_e1 (pc1 := 975) (L1 := [some (.ref 0), some (.ref 4), some (.ref 19), some (.int 0)]) (S1 := [.int 1, .ref 0, .ref 4]) zd0_974 rfl rfl rfl ?_
  refine z_eial (y := x1) zd0_975 h0 (by decide) g1 ?_
  refine z_e1 (pc1 := 977) (L1 := [some (.ref 0), some (.ref 4), some (.ref 19), some (.int 0)]) (S1 := [.ref 0, .int x1, .ref 4]) zd0_976 rfl rfl rfl ?_
  refine z_e1 (pc1 := 978) (L1 := [some (.ref 0), some (.ref 4), some (.ref 19), some (.int 0)]) (S1 := [.int 0, .ref 0, .int x1, .ref 4]) zd0_977 rfl rfl rfl ?_
  refine z_e1 (pc1 := 979) (L1 := [some (.ref 0), some (.ref 4), some (.ref 19), some (.int 0)]) (S1 := [.int 2, .int 0, .ref 0, .int x1, .ref 4]) zd0_978 rfl rfl rfl ?_
  refine z_e1 (pc1 := 980) (L1 := [some (.ref 0), some (.ref 4), some (.ref 19), some (.int 0)]) (S1 := [.int 2, .ref 0, .int x1, .ref 4]) zd0_979 rfl rfl rfl ?_
  refine z_eial (y := x2) zd0_980 h0 (by decide) g2 ?_
  refine z_e1 (pc1 := 982) (L1 := [some (.ref 0), some (.ref 4), some (.ref 19), some (.int 0)]) (S1 := [.ref 0, .int x2, .int x1, .ref 4]) zd0_981 rfl rfl rfl ?_
  refine z_e1 (pc1 := 983) (L1 := [some (.ref 0), some (.ref 4), some (.ref 19), some (.int 0)]) (S1 := [.int 0, .ref 0, .int x2, .int x1, .ref 4]) zd0_982 rfl rfl rfl ?_
  refine z_e1 (pc1 := 984) (L1 := [some (.ref 0), some (.ref 4), some (.ref 19), some (.int 0)]) (S1 := [.int 3, .int 0, .ref 0, .int x2, .int x1, .ref 4]) zd0_983 rfl rfl rfl ?_
  refine z_e1 (pc1 := 985) (L1 := [some (.ref 0), some (.ref 4), some (.ref 19), some (.int 0)]) (S1 := [.int 3, .ref 0, .int x2, .int x1, .ref 4]) zd0_984 rfl rfl rfl ?_
  refine z_eial (y := x3) zd0_985 h0 (by decide) g3 ?_
  refine z_e1 (pc1 := 987) (L1 := [some (.ref 0), some (.ref 4), some (.ref 19), some (.int 0)]) (S1 := [.ref 0, .int x3, .int x2, .int x1, .ref 4]) zd0_986 rfl rfl rfl ?_
  refine z_e1 (pc1 := 988) (L1 := [some (.ref 0), some (.ref 4), some (.ref 19), some (.int 0)]) (S1 := [.int 0, .ref 0, .int x3, .int x2, .int x1, .ref 4]) zd0_987 rfl rfl rfl ?_
  refine z_e1 (pc1 := 989) (L1 := [some (.ref 0), some (.ref 4), some (.ref 19), some (.int 0)]) (S1 := [.int 4, .int 0, .ref 0, .int x3, .int x2, .int x1, .ref 4]) zd0_988 rfl rfl rfl ?_
  refine z_e1 (pc1 := 990) (L1 := [some (.ref 0), some (.ref 4), some (.ref 19), some (.int 0)]) (S1 := [.int 4, .ref 0, .int x3, .int x2, .int x1, .ref 4]) zd0_989 rfl rfl rfl ?_
  refine z_eial (y := x4) zd0_990 h0 (by decide) g4 ?_
  refine z_ecV (vs := [.ref 4, .int x1, .int x2, .int x3, .int x4]) (r := []) (L2 := [some (.ref 4), some (.int x1), some (.int x2), some (.int x3), some (.int x4), none, none]) zd0_991 zcV0_98 (Or.inl rfl) rfl b4 (by decide) rfl rfl rfl (Nat.le_of_ble_eq_true rfl) zm106 (Nat.le_of_ble_eq_true rfl) rfl ?_
  refine z_e1 (pc1 := 1) (L1 := [some (.ref 4), some (.int x1), some (.int x2), some (.int x3), some (.int x4), none, none]) (S1 := [.ref 4]) zd106_0 rfl rfl rfl ?_
  refine z_e1 (pc1 := 2) (L1 := [some (.ref 4), some (.int x1), some (.int x2), some (.int x3), some (.int x4), none, none]) (S1 := [.int x1, .ref 4]) zd106_1 rfl rfl rfl ?_
  refine z_ecV (vs := [.ref 4, .int x1]) (r := []) (L2 := [some (.ref 4), some (.int x1)]) zd106_2 zcV106_221 (Or.inl rfl) rfl b4 (by decide) rfl rfl rfl (Nat.le_of_ble_eq_true rfl) zm84 (Nat.le_of_ble_eq_true rfl) rfl ?_
  refine z_e1 (pc1 := 1) (L1 := [some (.ref 4), some (.int x1)]) (S1 := [.int x1]) zd84_0 rfl rfl rfl ?_
  by_cases e1 : x1.toInt < 0
  · refine z_ez (t := 12) (t2 := 12) zd84_1 rfl (z_b_ltx1 (k := 0) (by decide) e1) ?_
    refine z_e1 (pc1 := 13) (L1 := [some (.ref 4), some (.int x1)]) (S1 := [.null]) zd84_12 rfl rfl rfl ?_
    refine z_e1 (pc1 := 22) (L1 := [some (.ref 4), some (.int x1)]) (S1 := [.null]) zd84_13 rfl rfl rfl ?_
    refine z_ern zd84_22 zr84 ?_
    show z_ev _ 106 5 [some (.ref 4), some (.int x1), some (.int x2), some (.int x3), some (.int x4), none, none] [.null] _ _
    refine z_e1 (pc1 := 7) (L1 := [some (.ref 4), some (.int x1), some (.int x2), some (.int x3), some (.int x4), some (.null), none]) (S1 := []) zd106_5 rfl rfl rfl ?_
    refine z_e1 (pc1 := 9) (L1 := [some (.ref 4), some (.int x1), some (.int x2), some (.int x3), some (.int x4), some (.null), none]) (S1 := [.null]) zd106_7 rfl rfl rfl ?_
    refine z_e1 (pc1 := 20) (L1 := [some (.ref 4), some (.int x1), some (.int x2), some (.int x3), some (.int x4), some (.null), none]) (S1 := []) zd106_9 rfl rfl rfl ?_
    refine z_e1 (pc1 := 21) (L1 := [some (.ref 4), some (.int x1), some (.int x2), some (.int x3), some (.int x4), some (.null), none]) (S1 := [.int (-1)]) zd106_20 rfl rfl rfl ?_
    refine z_eri zd106_21 zr106 ?_
    show z_ev _ 0 994 [some (.ref 0), some (.ref 4), some (.ref 19), some (.int 0)] [.int (-1)] _ _
    refine z_e1 (pc1 := 995) (L1 := [some (.ref 0), some (.ref 4), some (.ref 19), some (.int 0)]) (S1 := [.ref 19, .int (-1)]) zd0_994 rfl rfl rfl ?_
    refine z_e1 (pc1 := 996) (L1 := [some (.ref 0), some (.ref 4), some (.ref 19), some (.int 0)]) (S1 := [.ref 0, .ref 19, .int (-1)]) zd0_995 rfl rfl rfl ?_
    refine z_e1 (pc1 := 997) (L1 := [some (.ref 0), some (.ref 4), some (.ref 19), some (.int 0)]) (S1 := [.int 0, .ref 0, .ref 19, .int (-1)]) zd0_996 rfl rfl rfl ?_
    refine z_e1 (pc1 := 998) (L1 := [some (.ref 0), some (.ref 4), some (.ref 19), some (.int 0)]) (S1 := [.int 1, .int 0, .ref 0, .ref 19, .int (-1)]) zd0_997 rfl rfl rfl ?_
    refine z_e1 (pc1 := 999) (L1 := [some (.ref 0), some (.ref 4), some (.ref 19), some (.int 0)]) (S1 := [.int 1, .ref 0, .ref 19, .int (-1)]) zd0_998 rfl rfl rfl ?_
    refine z_eial (y := x1) zd0_999 h0 (by decide) g1 ?_
    refine z_e1 (pc1 := 1001) (L1 := [some (.ref 0), some (.ref 4), some (.ref 19), some (.int 0)]) (S1 := [.ref 0, .int x1, .ref 19, .int (-1)]) zd0_1000 rfl rfl rfl ?_
    refine z_e1 (pc1 := 1002) (L1 := [some (.ref 0), some (.ref 4), some (.ref 19), some (.int 0)]) (S1 := [.int 0, .ref 0, .int x1, .ref 19, .int (-1)]) zd0_1001 rfl rfl rfl ?_
    refine z_e1 (pc1 := 1003) (L1 := [some (.ref 0), some (.ref 4), some (.ref 19), some (.int 0)]) (S1 := [.int 2, .int 0, .ref 0, .int x1, .ref 19, .int (-1)]) zd0_1002 rfl rfl rfl ?_
    refine z_e1 (pc1 := 1004) (L1 := [some (.ref 0), some (.ref 4), some (.ref 19), some (.int 0)]) (S1 := [.int 2, .ref 0, .int x1, .ref 19, .int (-1)]) zd0_1003 rfl rfl rfl ?_
    refine z_eial (y := x2) zd0_1004 h0 (by decide) g2 ?_
    refine z_e1 (pc1 := 1006) (L1 := [some (.ref 0), some (.ref 4), some (.ref 19), some (.int 0)]) (S1 := [.ref 0, .int x2, .int x1, .ref 19, .int (-1)]) zd0_1005 rfl rfl rfl ?_
    refine z_e1 (pc1 := 1007) (L1 := [some (.ref 0), some (.ref 4), some (.ref 19), some (.int 0)]) (S1 := [.int 0, .ref 0, .int x2, .int x1, .ref 19, .int (-1)]) zd0_1006 rfl rfl rfl ?_
    refine z_e1 (pc1 := 1008) (L1 := [some (.ref 0), some (.ref 4), some (.ref 19), some (.int 0)]) (S1 := [.int 3, .int 0, .ref 0, .int x2, .int x1, .ref 19, .int (-1)]) zd0_1007 rfl rfl rfl ?_
    refine z_e1 (pc1 := 1009) (L1 := [some (.ref 0), some (.ref 4), some (.ref 19), some (.int 0)]) (S1 := [.int 3, .ref 0, .int x2, .int x1, .ref 19, .int (-1)]) zd0_1008 rfl rfl rfl ?_
    refine z_eial (y := x3) zd0_1009 h0 (by decide) g3 ?_
    refine z_e1 (pc1 := 1011) (L1 := [some (.ref 0), some (.ref 4), some (.ref 19), some (.int 0)]) (S1 := [.ref 0, .int x3, .int x2, .int x1, .ref 19, .int (-1)]) zd0_1010 rfl rfl rfl ?_
    refine z_e1 (pc1 := 1012) (L1 := [some (.ref 0), some (.ref 4), some (.ref 19), some (.int 0)]) (S1 := [.int 0, .ref 0, .int x3, .int x2, .int x1, .ref 19, .int (-1)]) zd0_1011 rfl rfl rfl ?_
    refine z_e1 (pc1 := 1013) (L1 := [some (.ref 0), some (.ref 4), some (.ref 19), some (.int 0)]) (S1 := [.int 4, .int 0, .ref 0, .int x3, .int x2, .int x1, .ref 19, .int (-1)]) zd0_1012 rfl rfl rfl ?_
    refine z_e1 (pc1 := 1014) (L1 := [some (.ref 0), some (.ref 4), some (.ref 19), some (.int 0)]) (S1 := [.int 4, .ref 0, .int x3, .int x2, .int x1, .ref 19, .int (-1)]) zd0_1013 rfl rfl rfl ?_
    refine z_eial (y := x4) zd0_1014 h0 (by decide) g4 ?_
    refine z_ecV (vs := [.ref 19, .int x1, .int x2, .int x3, .int x4]) (r := [.int (-1)]) (L2 := [some (.ref 19), some (.int x1), some (.int x2), some (.int x3), some (.int x4), none, none, none, none, none]) zd0_1015 zcV0_101 (Or.inl rfl) rfl b19 (by decide) rfl rfl rfl (Nat.le_of_ble_eq_true rfl) zm256 (Nat.le_of_ble_eq_true rfl) rfl ?_
    refine z_e1 (pc1 := 1) (L1 := [some (.ref 19), some (.int x1), some (.int x2), some (.int x3), some (.int x4), none, none, none, none, none]) (S1 := [.ref 19]) zd256_0 rfl rfl rfl ?_
    refine z_e1 (pc1 := 2) (L1 := [some (.ref 19), some (.int x1), some (.int x2), some (.int x3), some (.int x4), none, none, none, none, none]) (S1 := [.int x1, .ref 19]) zd256_1 rfl rfl rfl ?_
    refine z_ecV (vs := [.ref 19, .int x1]) (r := []) (L2 := [some (.ref 19), some (.int x1)]) zd256_2 zcV256_272 (Or.inl rfl) rfl b19 (by decide) rfl rfl rfl (Nat.le_of_ble_eq_true rfl) zm237 (Nat.le_of_ble_eq_true rfl) rfl ?_
    refine z_e1 (pc1 := 1) (L1 := [some (.ref 19), some (.int x1)]) (S1 := [.int x1]) zd237_0 rfl rfl rfl ?_
    refine z_ez (t := 16) (t2 := 16) zd237_1 rfl (z_b_ltx1 (k := 0) (by decide) (show x1.toInt < 0 from by omega)) ?_
    refine z_e1 (pc1 := 17) (L1 := [some (.ref 19), some (.int x1)]) (S1 := [.int 0]) zd237_16 rfl rfl rfl ?_
    refine z_erz zd237_17 zr237 (by decide) ?_
    show z_ev _ 256 5 [some (.ref 19), some (.int x1), some (.int x2), some (.int x3), some (.int x4), none, none, none, none, none] [.int 0] _ _
    refine z_ez (t := 19) (t2 := 19) zd256_5 rfl rfl ?_
    refine z_e1 (pc1 := 20) (L1 := [some (.ref 19), some (.int x1), some (.int x2), some (.int x3), some (.int x4), none, none, none, none, none]) (S1 := [.int (-1)]) zd256_19 rfl rfl rfl ?_
    refine z_eri zd256_20 zr256 ?_
    show z_ev _ 0 1018 [some (.ref 0), some (.ref 4), some (.ref 19), some (.int 0)] [.int (-1), .int (-1)] _ _
    refine z_ej (t := 1775) (t2 := 1775) zd0_1018 rfl rfl ?_
    refine z_e1 (pc1 := 1778) (L1 := [some (.ref 0), some (.ref 4), some (.ref 19), some (.int 6)]) (S1 := []) zd0_1775 rfl rfl rfl ?_
    refine z_e1 (pc1 := 18) (L1 := [some (.ref 0), some (.ref 4), some (.ref 19), some (.int 6)]) (S1 := []) zd0_1778 rfl rfl rfl ?_
    refine z_e1 (pc1 := 19) (L1 := [some (.ref 0), some (.ref 4), some (.ref 19), some (.int 6)]) (S1 := [.int 6]) zd0_18 rfl rfl rfl ?_
    refine z_e1 (pc1 := 20) (L1 := [some (.ref 0), some (.ref 4), some (.ref 19), some (.int 6)]) (S1 := [.ref 0, .int 6]) zd0_19 rfl rfl rfl ?_
    refine z_ealn (y := 6) zd0_20 h0 rfl ?_
    refine z_e1 (pc1 := 23) (L1 := [some (.ref 0), some (.ref 4), some (.ref 19), some (.int 6)]) (S1 := [.int 6, .int 6, .int 6]) zd0_21 rfl rfl rfl ?_
    refine z_e1 (pc1 := 24) (L1 := [some (.ref 0), some (.ref 4), some (.ref 19), some (.int 6)]) (S1 := [.int 0, .int 6]) zd0_23 rfl rfl rfl ?_
    refine z_ej (t := 1781) (t2 := 1781) zd0_24 rfl rfl ?_
    refine z_e1 (pc1 := 1782) (L1 := [some (.ref 0), some (.ref 4), some (.ref 19), some (.int 6)]) (S1 := [.int 1]) zd0_1781 rfl rfl rfl ?_
    refine z_erz zd0_1782 zr0 (by decide) ?_
    exact z_K1i hN hS (by decide) (by decide)
  · refine z_ez (t := 12) (t2 := 4) zd84_1 rfl (z_b_ltx0 (k := 0) (by decide) e1) ?_
    refine z_e1 (pc1 := 5) (L1 := [some (.ref 4), some (.int x1)]) (S1 := [.int x1]) zd84_4 rfl rfl rfl ?_
    refine z_e1 (pc1 := 6) (L1 := [some (.ref 4), some (.int x1)]) (S1 := [.ref 4, .int x1]) zd84_5 rfl rfl rfl ?_
    refine z_egf (fs := [.ref 5, .ref 10, .ref 11, .int 0, .ref 12, .int 0, .ref 13, .ref 14, .ref 15, .ref 16, .ref 17, .ref 18, .null]) (v := .int 0) zd84_6 zf84_188 b4 (by decide) (by decide) rfl ?_
    refine z_ej (t := 16) (t2 := 12) zd84_9 rfl (z_b_ltx0 (k := 0) (by decide) (show ¬ x1.toInt < 0 from by omega)) ?_
    refine z_e1 (pc1 := 13) (L1 := [some (.ref 4), some (.int x1)]) (S1 := [.null]) zd84_12 rfl rfl rfl ?_
    refine z_e1 (pc1 := 22) (L1 := [some (.ref 4), some (.int x1)]) (S1 := [.null]) zd84_13 rfl rfl rfl ?_
    refine z_ern zd84_22 zr84 ?_
    show z_ev _ 106 5 [some (.ref 4), some (.int x1), some (.int x2), some (.int x3), some (.int x4), none, none] [.null] _ _
    refine z_e1 (pc1 := 7) (L1 := [some (.ref 4), some (.int x1), some (.int x2), some (.int x3), some (.int x4), some (.null), none]) (S1 := []) zd106_5 rfl rfl rfl ?_
    refine z_e1 (pc1 := 9) (L1 := [some (.ref 4), some (.int x1), some (.int x2), some (.int x3), some (.int x4), some (.null), none]) (S1 := [.null]) zd106_7 rfl rfl rfl ?_
    refine z_e1 (pc1 := 20) (L1 := [some (.ref 4), some (.int x1), some (.int x2), some (.int x3), some (.int x4), some (.null), none]) (S1 := []) zd106_9 rfl rfl rfl ?_
    refine z_e1 (pc1 := 21) (L1 := [some (.ref 4), some (.int x1), some (.int x2), some (.int x3), some (.int x4), some (.null), none]) (S1 := [.int (-1)]) zd106_20 rfl rfl rfl ?_
    refine z_eri zd106_21 zr106 ?_
    show z_ev _ 0 994 [some (.ref 0), some (.ref 4), some (.ref 19), some (.int 0)] [.int (-1)] _ _
    refine z_e1 (pc1 := 995) (L1 := [some (.ref 0), some (.ref 4), some (.ref 19), some (.int 0)]) (S1 := [.ref 19, .int (-1)]) zd0_994 rfl rfl rfl ?_
    refine z_e1 (pc1 := 996) (L1 := [some (.ref 0), some (.ref 4), some (.ref 19), some (.int 0)]) (S1 := [.ref 0, .ref 19, .int (-1)]) zd0_995 rfl rfl rfl ?_
    refine z_e1 (pc1 := 997) (L1 := [some (.ref 0), some (.ref 4), some (.ref 19), some (.int 0)]) (S1 := [.int 0, .ref 0, .ref 19, .int (-1)]) zd0_996 rfl rfl rfl ?_
    refine z_e1 (pc1 := 998) (L1 := [some (.ref 0), some (.ref 4), some (.ref 19), some (.int 0)]) (S1 := [.int 1, .int 0, .ref 0, .ref 19, .int (-1)]) zd0_997 rfl rfl rfl ?_
    refine z_e1 (pc1 := 999) (L1 := [some (.ref 0), some (.ref 4), some (.ref 19), some (.int 0)]) (S1 := [.int 1, .ref 0, .ref 19, .int (-1)]) zd0_998 rfl rfl rfl ?_
    refine z_eial (y := x1) zd0_999 h0 (by decide) g1 ?_
    refine z_e1 (pc1 := 1001) (L1 := [some (.ref 0), some (.ref 4), some (.ref 19), some (.int 0)]) (S1 := [.ref 0, .int x1, .ref 19, .int (-1)]) zd0_1000 rfl rfl rfl ?_
    refine z_e1 (pc1 := 1002) (L1 := [some (.ref 0), some (.ref 4), some (.ref 19), some (.int 0)]) (S1 := [.int 0, .ref 0, .int x1, .ref 19, .int (-1)]) zd0_1001 rfl rfl rfl ?_
    refine z_e1 (pc1 := 1003) (L1 := [some (.ref 0), some (.ref 4), some (.ref 19), some (.int 0)]) (S1 := [.int 2, .int 0, .ref 0, .int x1, .ref 19, .int (-1)]) zd0_1002 rfl rfl rfl ?_
    refine z_e1 (pc1 := 1004) (L1 := [some (.ref 0), some (.ref 4), some (.ref 19), some (.int 0)]) (S1 := [.int 2, .ref 0, .int x1, .ref 19, .int (-1)]) zd0_1003 rfl rfl rfl ?_
    refine z_eial (y := x2) zd0_1004 h0 (by decide) g2 ?_
    refine z_e1 (pc1 := 1006) (L1 := [some (.ref 0), some (.ref 4), some (.ref 19), some (.int 0)]) (S1 := [.ref 0, .int x2, .int x1, .ref 19, .int (-1)]) zd0_1005 rfl rfl rfl ?_
    refine z_e1 (pc1 := 1007) (L1 := [some (.ref 0), some (.ref 4), some (.ref 19), some (.int 0)]) (S1 := [.int 0, .ref 0, .int x2, .int x1, .ref 19, .int (-1)]) zd0_1006 rfl rfl rfl ?_
    refine z_e1 (pc1 := 1008) (L1 := [some (.ref 0), some (.ref 4), some (.ref 19), some (.int 0)]) (S1 := [.int 3, .int 0, .ref 0, .int x2, .int x1, .ref 19, .int (-1)]) zd0_1007 rfl rfl rfl ?_
    refine z_e1 (pc1 := 1009) (L1 := [some (.ref 0), some (.ref 4), some (.ref 19), some (.int 0)]) (S1 := [.int 3, .ref 0, .int x2, .int x1, .ref 19, .int (-1)]) zd0_1008 rfl rfl rfl ?_
    refine z_eial (y := x3) zd0_1009 h0 (by decide) g3 ?_
    refine z_e1 (pc1 := 1011) (L1 := [some (.ref 0), some (.ref 4), some (.ref 19), some (.int 0)]) (S1 := [.ref 0, .int x3, .int x2, .int x1, .ref 19, .int (-1)]) zd0_1010 rfl rfl rfl ?_
    refine z_e1 (pc1 := 1012) (L1 := [some (.ref 0), some (.ref 4), some (.ref 19), some (.int 0)]) (S1 := [.int 0, .ref 0, .int x3, .int x2, .int x1, .ref 19, .int (-1)]) zd0_1011 rfl rfl rfl ?_
    refine z_e1 (pc1 := 1013) (L1 := [some (.ref 0), some (.ref 4), some (.ref 19), some (.int 0)]) (S1 := [.int 4, .int 0, .ref 0, .int x3, .int x2, .int x1, .ref 19, .int (-1)]) zd0_1012 rfl rfl rfl ?_
    refine z_e1 (pc1 := 1014) (L1 := [some (.ref 0), some (.ref 4), some (.ref 19), some (.int 0)]) (S1 := [.int 4, .ref 0, .int x3, .int x2, .int x1, .ref 19, .int (-1)]) zd0_1013 rfl rfl rfl ?_
    refine z_eial (y := x4) zd0_1014 h0 (by decide) g4 ?_
    refine z_ecV (vs := [.ref 19, .int x1, .int x2, .int x3, .int x4]) (r := [.int (-1)]) (L2 := [some (.ref 19), some (.int x1), some (.int x2), some (.int x3), some (.int x4), none, none, none, none, none]) zd0_1015 zcV0_101 (Or.inl rfl) rfl b19 (by decide) rfl rfl rfl (Nat.le_of_ble_eq_true rfl) zm256 (Nat.le_of_ble_eq_true rfl) rfl ?_
    refine z_e1 (pc1 := 1) (L1 := [some (.ref 19), some (.int x1), some (.int x2), some (.int x3), some (.int x4), none, none, none, none, none]) (S1 := [.ref 19]) zd256_0 rfl rfl rfl ?_
    refine z_e1 (pc1 := 2) (L1 := [some (.ref 19), some (.int x1), some (.int x2), some (.int x3), some (.int x4), none, none, none, none, none]) (S1 := [.int x1, .ref 19]) zd256_1 rfl rfl rfl ?_
    refine z_ecV (vs := [.ref 19, .int x1]) (r := []) (L2 := [some (.ref 19), some (.int x1)]) zd256_2 zcV256_272 (Or.inl rfl) rfl b19 (by decide) rfl rfl rfl (Nat.le_of_ble_eq_true rfl) zm237 (Nat.le_of_ble_eq_true rfl) rfl ?_
    refine z_e1 (pc1 := 1) (L1 := [some (.ref 19), some (.int x1)]) (S1 := [.int x1]) zd237_0 rfl rfl rfl ?_
    refine z_ez (t := 16) (t2 := 4) zd237_1 rfl (z_b_ltx0 (k := 0) (by decide) (show ¬ x1.toInt < 0 from by omega)) ?_
    refine z_e1 (pc1 := 5) (L1 := [some (.ref 19), some (.int x1)]) (S1 := [.int x1]) zd237_4 rfl rfl rfl ?_
    refine z_e1 (pc1 := 6) (L1 := [some (.ref 19), some (.int x1)]) (S1 := [.ref 19, .int x1]) zd237_5 rfl rfl rfl ?_
    refine z_egf (fs := [.ref 20, .int 0, .ref 21, .ref 22, .ref 23, .ref 24, .ref 25, .ref 26, .ref 27, .ref 28, .ref 29, .ref 30, .ref 31, .int 0, .ref 32, .ref 33, .ref 34, .ref 35, .ref 36, .ref 37, .ref 38, .int 0, .int 0, .int 0, .int 0, .int 0, .int 0, .int 0, .int 0, .int 0, .int 0, .ref 39, .ref 40, .ref 41, .int 0, .int 0, .ref 42, .ref 43, .ref 44, .ref 45, .ref 46, .int 0, .ref 47, .int 0, .int 0, .int 0, .ref 48, .int 0, .int 0, .ref 49, .ref 50, .ref 51, .ref 52]) (v := .int 0) zd237_6 zf237_269 b19 (by decide) (by decide) rfl ?_
    refine z_ej (t := 16) (t2 := 16) zd237_9 rfl (z_b_gex0 (k := 0) (by decide) (show ¬ x1.toInt < 0 from by omega)) ?_
    refine z_e1 (pc1 := 17) (L1 := [some (.ref 19), some (.int x1)]) (S1 := [.int 0]) zd237_16 rfl rfl rfl ?_
    refine z_erz zd237_17 zr237 (by decide) ?_
    show z_ev _ 256 5 [some (.ref 19), some (.int x1), some (.int x2), some (.int x3), some (.int x4), none, none, none, none, none] [.int 0] _ _
    refine z_ez (t := 19) (t2 := 19) zd256_5 rfl rfl ?_
    refine z_e1 (pc1 := 20) (L1 := [some (.ref 19), some (.int x1), some (.int x2), some (.int x3), some (.int x4), none, none, none, none, none]) (S1 := [.int (-1)]) zd256_19 rfl rfl rfl ?_
    refine z_eri zd256_20 zr256 ?_
    show z_ev _ 0 1018 [some (.ref 0), some (.ref 4), some (.ref 19), some (.int 0)] [.int (-1), .int (-1)] _ _
    refine z_ej (t := 1775) (t2 := 1775) zd0_1018 rfl rfl ?_
    refine z_e1 (pc1 := 1778) (L1 := [some (.ref 0), some (.ref 4), some (.ref 19), some (.int 6)]) (S1 := []) zd0_1775 rfl rfl rfl ?_
    refine z_e1 (pc1 := 18) (L1 := [some (.ref 0), some (.ref 4), some (.ref 19), some (.int 6)]) (S1 := []) zd0_1778 rfl rfl rfl ?_
    refine z_e1 (pc1 := 19) (L1 := [some (.ref 0), some (.ref 4), some (.ref 19), some (.int 6)]) (S1 := [.int 6]) zd0_18 rfl rfl rfl ?_
    refine z_e1 (pc1 := 20) (L1 := [some (.ref 0), some (.ref 4), some (.ref 19), some (.int 6)]) (S1 := [.ref 0, .int 6]) zd0_19 rfl rfl rfl ?_
    refine z_ealn (y := 6) zd0_20 h0 rfl ?_
    refine z_e1 (pc1 := 23) (L1 := [some (.ref 0), some (.ref 4), some (.ref 19), some (.int 6)]) (S1 := [.int 6, .int 6, .int 6]) zd0_21 rfl rfl rfl ?_
    refine z_e1 (pc1 := 24) (L1 := [some (.ref 0), some (.ref 4), some (.ref 19), some (.int 6)]) (S1 := [.int 0, .int 6]) zd0_23 rfl rfl rfl ?_
    refine z_ej (t := 1781) (t2 := 1781) zd0_24 rfl rfl ?_
    refine z_e1 (pc1 := 1782) (L1 := [some (.ref 0), some (.ref 4), some (.ref 19), some (.int 6)]) (S1 := [.int 1]) zd0_1781 rfl rfl rfl ?_
    refine z_erz zd0_1782 zr0 (by decide) ?_
    exact z_K1i hN hS (by decide) (by decide)
theorem z_C21 {M : zH} {xs : Nat → Int32} {x1 x2 x3 x4 x5 : Int32} (h0 : M[0]? = some (.inl (0, 6, .inl xs))) (hN : M.length = 53) (hS : z_sz M ≤ 50000) (hB : z_fr M 4 53) (g1 : xs 1 = x1) (g2 : xs 2 = x2) (g3 : xs 3 = x3) (g4 : xs 4 = x4) (g5 : xs 5 = x5) : z_ev 2047 0 1023 [some (.ref 0), some (.ref 4), some (.ref 19), some (.int 0)] [] M z_K1 := by
  have b4 := z_qO (hB 4 (by decide) (by decide))
  have b19 := z_qO (hB 19 (by decide) (by decide))
  refine z_e1 (pc1 := 1024) (L1 := [some (.ref 0), some (.ref 4), some (.ref 19), some (.int 0)]) (S1 := [.ref 4]) zd0_1023 rfl rfl rfl ?_
  refine z_e1 (pc1 := 1025) (L1 := [some (.ref 0), some (.ref 4), some (.ref 19), some (.int 0)]) (S1 := [.ref 0, .ref 4]) zd0_1024 rfl rfl rfl ?_
  refine z_e1 (pc1 := 1026) (L1 := [some (.ref 0), some (.ref 4), some (.ref 19), some (.int 0)]) (S1 := [.int 0, .ref 0, .ref 4]) zd0_1025 rfl rfl rfl ?_
  refine z_e1 (pc1 := 1027) (L1 := [some (.ref 0), some (.ref 4), some (.ref 19), some (.int 0)]) (S1 := [.int 1, .int 0, .ref 0, .ref 4]) zd0_1026 rfl rfl rfl ?_
  refine z_e1 (pc1 := 1028) (L1 := [some (.ref 0), some (.ref 4), some (.ref 19), some (.int 0)]) (S1 := [.int 1, .ref 0, .ref 4]) zd0_1027 rfl rfl rfl ?_
  refine z_eial (y := x1) zd0_1028 h0 (by decide) g1 ?_
  refine z_e1 (pc1 := 1030) (L1 := [some (.ref 0), some (.ref 4), some (.ref 19), some (.int 0)]) (S1 := [.ref 0, .int x1, .ref 4]) zd0_1029 rfl rfl rfl ?_
  refine z_e1 (pc1 := 1031) (L1 := [some (.ref 0), some (.ref 4), some (.ref 19), some (.int 0)]) (S1 := [.int 0, .ref 0, .int x1, .ref 4]) zd0_1030 rfl rfl rfl ?_
  refine z_e1 (pc1 := 1032) (L1 := [some (.ref 0), some (.ref 4), some (.ref 19), some (.int 0)]) (S1 := [.int 2, .int 0, .ref 0, .int x1, .ref 4]) zd0_1031 rfl rfl rfl ?_
  refine z_e1 (pc1 := 1033) (L1 := [some (.ref 0), some (.ref 4), some (.ref 19), some (.int 0)]) (S1 := [.int 2, .ref 0, .int x1, .ref 4]) zd0_1032 rfl rfl rfl ?_
  refine z_eial (y := x2) zd0_1033 h0 (by decide) g2 ?_
  refine z_e1 (pc1 := 1035) (L1 := [some (.ref 0), some (.ref 4), some (.ref 19), some (.int 0)]) (S1 := [.ref 0, .int x2, .int x1, .ref 4]) zd0_1034 rfl rfl rfl ?_
  refine z_e1 (pc1 := 1036) (L1 := [some (.ref 0), some (.ref 4), some (.ref 19), some (.int 0)]) (S1 := [.int 0, .ref 0, .int x2, .int x1, .ref 4]) zd0_1035 rfl rfl rfl ?_
  refine z_e1 (pc1 := 1037) (L1 := [some (.ref 0), some (.ref 4), some (.ref 19), some (.int 0)]) (S1 := [.int 3, .int 0, .ref 0, .int x2, .int x1, .ref 4]) zd0_1036 rfl rfl rfl ?_
  refine z_e1 (pc1 := 1038) (L1 := [some (.ref 0), some (.ref 4), some (.ref 19), some (.int 0)]) (S1 := [.int 3, .ref 0, .int x2, .int x1, .ref 4]) zd0_1037 rfl rfl rfl ?_
  refine z_eial (y := x3) zd0_1038 h0 (by decide) g3 ?_
  refine z_e1 (pc1 := 1040) (L1 := [some (.ref 0), some (.ref 4), some (.ref 19), some (.int 0)]) (S1 := [.ref 0, .int x3, .int x2, .int x1, .ref 4]) zd0_1039 rfl rfl rfl ?_
  refine z_e1 (pc1 := 1041) (L1 := [some (.ref 0), some (.ref 4), some (.ref 19), some (.int 0)]) (S1 := [.int 0, .ref 0, .int x3, .int x2, .int x1, .ref 4]) zd0_1040 rfl rfl rfl ?_
  refine z_e1 (pc1 := 1042) (L1 := [some (.ref 0), some (.ref 4), some (.ref 19), some (.int 0)]) (S1 := [.int 4, .int 0, .ref 0, .int x3, .int x2, .int x1, .ref 4]) zd0_1041 rfl rfl rfl ?_
  refine z_e1 (pc1 := 1043) (L1 := [some (.ref 0), some (.ref 4), some (.ref 19), some (.int 0)]) (S1 := [.int 4, .ref 0, .int x3, .int x2, .int x1, .ref 4]) zd0_1042 rfl rfl rfl ?_
  refine z_eial (y := x4) zd0_1043 h0 (by decide) g4 ?_
  refine z_e1 (pc1 := 1045) (L1 := [some (.ref 0), some (.ref 4), some (.ref 19), some (.int 0)]) (S1 := [.ref 0, .int x4, .int x3, .int x2, .int x1, .ref 4]) zd0_1044 rfl rfl rfl ?_
  refine z_e1 (pc1 := 1046) (L1 := [some (.ref 0), some (.ref 4), some (.ref 19), some (.int 0)]) (S1 := [.int 0, .ref 0, .int x4, .int x3, .int x2, .int x1, .ref 4]) zd0_1045 rfl rfl rfl ?_
  refine z_e1 (pc1 := 1047) (L1 := [some (.ref 0), some (.ref 4), some (.ref 19), some (.int 0)]) (S1 := [.int 5, .int 0, .ref 0, .int x4, .int x3, .int x2, .int x1, .ref 4]) zd0_1046 rfl rfl rfl ?_
  refine z_e1 (pc1 := 1048) (L1 := [some (.ref 0), some (.ref 4), some (.ref 19), some (.int 0)]) (S1 := [.int 5, .ref 0, .int x4, .int x3, .int x2, .int x1, .ref 4]) zd0_1047 rfl rfl rfl ?_
  refine z_eial (y := x5) zd0_1048 h0 (by decide) g5 ?_
  refine z_ecV (vs := [.ref 4, .int x1, .int x2, .int x3, .int x4, .int x5]) (r := []) (L2 := [some (.ref 4), some (.int x1), some (.int x2), some (.int x3), some (.int x4), some (.int x5), none, none, none]) zd0_1049 zcV0_102 (Or.inl rfl) rfl b4 (by decide) rfl rfl rfl (Nat.le_of_ble_eq_true rfl) zm112 (Nat.le_of_ble_eq_true rfl) rfl ?_
  refine z_e1 (pc1 := 1) (L1 := [some (.ref 4), some (.int x1), some (.int x2), some (.int x3), some (.int x4), some (.int x5), none, none, none]) (S1 := [.ref 4]) zd112_0 rfl rfl rfl ?_
  refine z_e1 (pc1 := 2) (L1 := [some (.ref 4), some (.int x1), some (.int x2), some (.int x3), some (.int x4), some (.int x5), none, none, none]) (S1 := [.int x1, .ref 4]) zd112_1 rfl rfl rfl ?_
  refine z_ecV (vs := [.ref 4, .int x1]) (r := []) (L2 := [some (.ref 4), some (.int x1)]) zd112_2 zcV112_221 (Or.inl rfl) rfl b4 (by decide) rfl rfl rfl (Nat.le_of_ble_eq_true rfl) zm84 (Nat.le_of_ble_eq_true rfl) rfl ?_
  refine z_e1 (pc1 := 1) (L1 := [some (.ref 4), some (.int x1)]) (S1 := [.int x1]) zd84_0 rfl rfl rfl ?_
  by_cases e1 : x1.toInt < 0
  · refine z_ez (t := 12) (t2 := 12) zd84_1 rfl (z_b_ltx1 (k := 0) (by decide) e1) ?_
    refine z_e1 (pc1 := 13) (L1 := [some (.ref 4), some (.int x1)]) (S1 := [.null]) zd84_12 rfl rfl rfl ?_
    refine z_e1 (pc1 := 22) (L1 := [some (.ref 4), some (.int x1)]) (S1 := [.null]) zd84_13 rfl rfl rfl ?_
    refine z_ern zd84_22 zr84 ?_
    show z_ev _ 112 5 [some (.ref 4), some (.int x1), some (.int x2), some (.int x3), some (.int x4), some (.int x5), none, none, none] [.null] _ _
    refine z_e1 (pc1 := 7) (L1 := [some (.ref 4), some (.int x1), some (.int x2), some (.int x3), some (.int x4), some (.int x5), some (.null), none, none]) (S1 := []) zd112_5 rfl rfl rfl ?_
    refine z_e1 (pc1 := 8) (L1 := [some (.ref 4), some (.int x1), some (.int x2), some (.int x3), some (.int x4), some (.int x5), some (.null), none, none]) (S1 := [.ref 4]) zd112_7 rfl rfl rfl ?_
    refine z_e1 (pc1 := 9) (L1 := [some (.ref 4), some (.int x1), some (.int x2), some (.int x3), some (.int x4), some (.int x5), some (.null), none, none]) (S1 := [.int x2, .ref 4]) zd112_8 rfl rfl rfl ?_
    refine z_ecV (vs := [.ref 4, .int x2]) (r := []) (L2 := [some (.ref 4), some (.int x2)]) zd112_9 zcV112_221 (Or.inl rfl) rfl b4 (by decide) rfl rfl rfl (Nat.le_of_ble_eq_true rfl) zm84 (Nat.le_of_ble_eq_true rfl) rfl ?_
    refine z_e1 (pc1 := 1) (L1 := [some (.ref 4), some (.int x2)]) (S1 := [.int x2]) zd84_0 rfl rfl rfl ?_
    by_cases e2 : x2.toInt < 0
    · refine z_ez (t := 12) (t2 := 12) zd84_1 rfl (z_b_ltx1 (k := 0) (by decide) e2) ?_
      refine z_e1 (pc1 := 13) (L1 := [some (.ref 4), some (.int x2)]) (S1 := [.null]) zd84_12 rfl rfl rfl ?_
      refine z_e1 (pc1 := 22) (L1 := [some (.ref 4), some (.int x2)]) (S1 := [.null]) zd84_13 rfl rfl rfl ?_
      refine z_ern zd84_22 zr84 ?_
      show z_ev _ 112 12 [some (.ref 4), some (.int x1), some (.int x2), some (.int x3), some (.int x4), some (.int x5), some (.null), none, none] [.null] _ _
      refine z_e1 (pc1 := 14) (L1 := [some (.ref 4), some (.int x1), some (.int x2), some (.int x3), some (.int x4), some (.int x5), some (.null), some (.null), none]) (S1 := []) zd112_12 rfl rfl rfl ?_
      refine z_e1 (pc1 := 16) (L1 := [some (.ref 4), some (.int x1), some (.int x2), some (.int x3), some (.int x4), some (.int x5), some (.null), some (.null), none]) (S1 := [.null]) zd112_14 rfl rfl rfl ?_
      refine z_e1 (pc1 := 32) (L1 := [some (.ref 4), some (.int x1), some (.int x2), some (.int x3), some (.int x4), some (.int x5), some (.null), some (.null), none]) (S1 := []) zd112_16 rfl rfl rfl ?_
      refine z_e1 (pc1 := 33) (L1 := [some (.ref 4), some (.int x1), some (.int x2), some (.int x3), some (.int x4), some (.int x5), some (.null), some (.null), none]) (S1 := [.int (-1)]) zd112_32 rfl rfl rfl ?_
      refine z_eri zd112_33 zr112 ?_
      show z_ev _ 0 1052 [some (.ref 0), some (.ref 4), some (.ref 19), some (.int 0)] [.int (-1)] _ _
      refine z_e1 (pc1 := 1053) (L1 := [some (.ref 0), some (.ref 4), some (.ref 19), some (.int 0)]) (S1 := [.ref 19, .int (-1)]) zd0_1052 rfl rfl rfl ?_
      refine z_e1 (pc1 := 1054) (L1 := [some (.ref 0), some (.ref 4), some (.ref 19), some (.int 0)]) (S1 := [.ref 0, .ref 19, .int (-1)]) zd0_1053 rfl rfl rfl ?_
      refine z_e1 (pc1 := 1055) (L1 := [some (.ref 0), some (.ref 4), some (.ref 19), some (.int 0)]) (S1 := [.int 0, .ref 0, .ref 19, .int (-1)]) zd0_1054 rfl rfl rfl ?_
      refine z_e1 (pc1 := 1056) (L1 := [some (.ref 0), some (.ref 4), some (.ref 19), some (.int 0)]) (S1 := [.int 1, .int 0, .ref 0, .ref 19, .int (-1)]) zd0_1055 rfl rfl rfl ?_
      refine z_e1 (pc1 := 1057) (L1 := [some (.ref 0), some (.ref 4), some (.ref 19), some (.int 0)]) (S1 := [.int 1, .ref 0, .ref 19, .int (-1)]) zd0_1056 rfl rfl rfl ?_
      refine z_eial (y := x1) zd0_1057 h0 (by decide) g1 ?_
      refine z_e1 (pc1 := 1059) (L1 := [some (.ref 0), some (.ref 4), some (.ref 19), some (.int 0)]) (S1 := [.ref 0, .int x1, .ref 19, .int (-1)]) zd0_1058 rfl rfl rfl ?_
      refine z_e1 (pc1 := 1060) (L1 := [some (.ref 0), some (.ref 4), some (.ref 19), some (.int 0)]) (S1 := [.int 0, .ref 0, .int x1, .ref 19, .int (-1)]) zd0_1059 rfl rfl rfl ?_
      refine z_e1 (pc1 := 1061) (L1 := [some (.ref 0), some (.ref 4), some (.ref 19), some (.int 0)]) (S1 := [.int 2, .int 0, .ref 0, .int x1, .ref 19, .int (-1)]) zd0_1060 rfl rfl rfl ?_
      refine z_e1 (pc1 := 1062) (L1 := [some (.ref 0), some (.ref 4), some (.ref 19), some (.int 0)]) (S1 := [.int 2, .ref 0, .int x1, .ref 19, .int (-1)]) zd0_1061 rfl rfl rfl ?_
      refine z_eial (y := x2) zd0_1062 h0 (by decide) g2 ?_
      refine z_e1 (pc1 := 1064) (L1 := [some (.ref 0), some (.ref 4), some (.ref 19), some (.int 0)]) (S1 := [.ref 0, .int x2, .int x1, .ref 19, .int (-1)]) zd0_1063 rfl rfl rfl ?_
      refine z_e1 (pc1 := 1065) (L1 := [some (.ref 0), some (.ref 4), some (.ref 19), some (.int 0)]) (S1 := [.int 0, .ref 0, .int x2, .int x1, .ref 19, .int (-1)]) zd0_1064 rfl rfl rfl ?_
      refine z_e1 (pc1 := 1066) (L1 := [some (.ref 0), some (.ref 4), some (.ref 19), some (.int 0)]) (S1 := [.int 3, .int 0, .ref 0, .int x2, .int x1, .ref 19, .int (-1)]) zd0_1065 rfl rfl rfl ?_
      refine z_e1 (pc1 := 1067) (L1 := [some (.ref 0), some (.ref 4), some (.ref 19), some (.int 0)]) (S1 := [.int 3, .ref 0, .int x2, .int x1, .ref 19, .int (-1)]) zd0_1066 rfl rfl rfl ?_
      refine z_eial (y := x3) zd0_1067 h0 (by decide) g3 ?_
      refine z_e1 (pc1 := 1069) (L1 := [some (.ref 0), some (.ref 4), some (.ref 19), some (.int 0)]) (S1 := [.ref 0, .int x3, .int x2, .int x1, .ref 19, .int (-1)]) zd0_1068 rfl rfl rfl ?_
      refine z_e1 (pc1 := 1070) (L1 := [some (.ref 0), some (.ref 4), some (.ref 19), some (.int 0)]) (S1 := [.int 0, .ref 0, .int x3, .int x2, .int x1, .ref 19, .int (-1)]) zd0_1069 rfl rfl rfl ?_
      refine z_e1 (pc1 := 1071) (L1 := [some (.ref 0), some (.ref 4), some (.ref 19), some (.int 0)]) (S1 := [.int 4, .int 0, .ref 0, .int x3, .int x2, .int x1, .ref 19, .int (-1)]) zd0_1070 rfl rfl rfl ?_
      refine z_e1 (pc1 := 1072) (L1 := [some (.ref 0), some (.ref 4), some (.ref 19), some (.int 0)]) (S1 := [.int 4, .ref 0, .int x3, .int x2, .int x1, .ref 19, .int (-1)]) zd0_1071 rfl rfl rfl ?_
      refine z_eial (y := x4) zd0_1072 h0 (by decide) g4 ?_
      refine z_e1 (pc1 := 1074) (L1 := [some (.ref 0), some (.ref 4), some (.ref 19), some (.int 0)]) (S1 := [.ref 0, .int x4, .int x3, .int x2, .int x1, .ref 19, .int (-1)]) zd0_1073 rfl rfl rfl ?_
      refine z_e1 (pc1 := 1075) (L1 := [some (.ref 0), some (.ref 4), some (.ref 19), some (.int 0)]) (S1 := [.int 0, .ref 0, .int x4, .int x3, .int x2, .int x1, .ref 19, .int (-1)]) zd0_1074 rfl rfl rfl ?_
      refine z_e1 (pc1 := 1076) (L1 := [some (.ref 0), some (.ref 4), some (.ref 19), some (.int 0)]) (S1 := [.int 5, .int 0, .ref 0, .int x4, .int x3, .int x2, .int x1, .ref 19, .int (-1)]) zd0_1075 rfl rfl rfl ?_
      refine z_e1 (pc1 := 1077) (L1 := [some (.ref 0), some (.ref 4), some (.ref 19), some (.int 0)]) (S1 := [.int 5, .ref 0, .int x4, .int x3, .int x2, .int x1, .ref 19, .int (-1)]) zd0_1076 rfl rfl rfl ?_
      refine z_eial (y := x5) zd0_1077 h0 (by decide) g5 ?_
      refine z_ecV (vs := [.ref 19, .int x1, .int x2, .int x3, .int x4, .int x5]) (r := [.int (-1)]) (L2 := [some (.ref 19), some (.int x1), some (.int x2), some (.int x3), some (.int x4), some (.int x5), none, none, none, none, none, none, none]) zd0_1078 zcV0_106 (Or.inl rfl) rfl b19 (by decide) rfl rfl rfl (Nat.le_of_ble_eq_true rfl) zm258 (Nat.le_of_ble_eq_true rfl) rfl ?_
      refine z_e1 (pc1 := 1) (L1 := [some (.ref 19), some (.int x1), some (.int x2), some (.int x3), some (.int x4), some (.int x5), none, none, none, none, none, none, none]) (S1 := [.ref 19]) zd258_0 rfl rfl rfl ?_
      refine z_e1 (pc1 := 2) (L1 := [some (.ref 19), some (.int x1), some (.int x2), some (.int x3), some (.int x4), some (.int x5), none, none, none, none, none, none, none]) (S1 := [.int x1, .ref 19]) zd258_1 rfl rfl rfl ?_
      refine z_ecV (vs := [.ref 19, .int x1]) (r := []) (L2 := [some (.ref 19), some (.int x1)]) zd258_2 zcV258_272 (Or.inl rfl) rfl b19 (by decide) rfl rfl rfl (Nat.le_of_ble_eq_true rfl) zm237 (Nat.le_of_ble_eq_true rfl) rfl ?_
      refine z_e1 (pc1 := 1) (L1 := [some (.ref 19), some (.int x1)]) (S1 := [.int x1]) zd237_0 rfl rfl rfl ?_
      refine z_ez (t := 16) (t2 := 16) zd237_1 rfl (z_b_ltx1 (k := 0) (by decide) (show x1.toInt < 0 from by omega)) ?_
      refine z_e1 (pc1 := 17) (L1 := [some (.ref 19), some (.int x1)]) (S1 := [.int 0]) zd237_16 rfl rfl rfl ?_
      refine z_erz zd237_17 zr237 (by decide) ?_
      show z_ev _ 258 5 [some (.ref 19), some (.int x1), some (.int x2), some (.int x3), some (.int x4), some (.int x5), none, none, none, none, none, none, none] [.int 0] _ _
      refine z_ez (t := 27) (t2 := 27) zd258_5 rfl rfl ?_
      refine z_e1 (pc1 := 28) (L1 := [some (.ref 19), some (.int x1), some (.int x2), some (.int x3), some (.int x4), some (.int x5), none, none, none, none, none, none, none]) (S1 := [.int (-1)]) zd258_27 rfl rfl rfl ?_
      refine z_eri zd258_28 zr258 ?_
      show z_ev _ 0 1081 [some (.ref 0), some (.ref 4), some (.ref 19), some (.int 0)] [.int (-1), .int (-1)] _ _
      refine z_ej (t := 1775) (t2 := 1775) zd0_1081 rfl rfl ?_
      refine z_e1 (pc1 := 1778) (L1 := [some (.ref 0), some (.ref 4), some (.ref 19), some (.int 6)]) (S1 := []) zd0_1775 rfl rfl rfl ?_
      refine z_e1 (pc1 := 18) (L1 := [some (.ref 0), some (.ref 4), some (.ref 19), some (.int 6)]) (S1 := []) zd0_1778 rfl rfl rfl ?_
      refine z_e1 (pc1 := 19) (L1 := [some (.ref 0), some (.ref 4), some (.ref 19), some (.int 6)]) (S1 := [.int 6]) zd0_18 rfl rfl rfl ?_
      refine z_e1 (pc1 := 20) (L1 := [some (.ref 0), some (.ref 4), some (.ref 19), some (.int 6)]) (S1 := [.ref 0, .int 6]) zd0_19 rfl rfl rfl ?_
      refine z_ealn (y := 6) zd0_20 h0 rfl ?_
      refine z_e1 (pc1 := 23) (L1 := [some (.ref 0), some (.ref 4), some (.ref 19), some (.int 6)]) (S1 := [.int 6, .int 6, .int 6]) zd0_21 rfl rfl rfl ?_
      refine z_e1 (pc1 := 24) (L1 := [some (.ref 0), some (.ref 4), some (.ref 19), some (.int 6)]) (S1 := [.int 0, .int 6]) zd0_23 rfl rfl rfl ?_
      refine z_ej (t := 1781) (t2 := 1781) zd0_24 rfl rfl ?_
      refine z_e1 (pc1 := 1782) (L1 := [some (.ref 0), some (.ref 4), some (.ref 19), some (.int 6)]) (S1 := [.int 1]) zd0_1781 rfl rfl rfl ?_
      refine z_erz zd0_1782 zr0 (by decide) ?_
      exact z_K1i hN hS (by decide) (by decide)
    · refine z_ez (t := 12) (t2 := 4) zd84_1 rfl (z_b_ltx0 (k := 0) (by decide) e2) ?_
      refine z_e1 (pc1 := 5) (L1 := [some (.ref 4), some (.int x2)]) (S1 := [.int x2]) zd84_4 rfl rfl rfl ?_
      refine z_e1 (pc1 := 6) (L1 := [some (.ref 4), some (.int x2)]) (S1 := [.ref 4, .int x2]) zd84_5 rfl rfl rfl ?_
      refine z_egf (fs := [.ref 5, .ref 10, .ref 11, .int 0, .ref 12, .int 0, .ref 13, .ref 14, .ref 15, .ref 16, .ref 17, .ref 18, .null]) (v := .int 0) zd84_6 zf84_188 b4 (by decide) (by decide) rfl ?_
      refine z_ej (t := 16) (t2 := 12) zd84_9 rfl (z_b_ltx0 (k := 0) (by decide) (show ¬ x2.toInt < 0 from by omega)) ?_
      refine z_e1 (pc1 := 13) (L1 := [some (.ref 4), some (.int x2)]) (S1 := [.null]) zd84_12 rfl rfl rfl ?_
      refine z_e1 (pc1 := 22) (L1 := [some (.ref 4), some (.int x2)]) (S1 := [.null]) zd84_13 rfl rfl rfl ?_
      refine z_ern zd84_22 zr84 ?_
      show z_ev _ 112 12 [some (.ref 4), some (.int x1), some (.int x2), some (.int x3), some (.int x4), some (.int x5), some (.null), none, none] [.null] _ _
      refine z_e1 (pc1 := 14) (L1 := [some (.ref 4), some (.int x1), some (.int x2), some (.int x3), some (.int x4), some (.int x5), some (.null), some (.null), none]) (S1 := []) zd112_12 rfl rfl rfl ?_
      refine z_e1 (pc1 := 16) (L1 := [some (.ref 4), some (.int x1), some (.int x2), some (.int x3), some (.int x4), some (.int x5), some (.null), some (.null), none]) (S1 := [.null]) zd112_14 rfl rfl rfl ?_
      refine z_e1 (pc1 := 32) (L1 := [some (.ref 4), some (.int x1), some (.int x2), some (.int x3), some (.int x4), some (.int x5), some (.null), some (.null), none]) (S1 := []) zd112_16 rfl rfl rfl ?_
      refine z_e1 (pc1 := 33) (L1 := [some (.ref 4), some (.int x1), some (.int x2), some (.int x3), some (.int x4), some (.int x5), some (.null), some (.null), none]) (S1 := [.int (-1)]) zd112_32 rfl rfl rfl ?_
      refine z_eri zd112_33 zr112 ?_
      show z_ev _ 0 1052 [some (.ref 0), some (.ref 4), some (.ref 19), some (.int 0)] [.int (-1)] _ _
      refine z_e1 (pc1 := 1053) (L1 := [some (.ref 0), some (.ref 4), some (.ref 19), some (.int 0)]) (S1 := [.ref 19, .int (-1)]) zd0_1052 rfl rfl rfl ?_
      refine z_e1 (pc1 := 1054) (L1 := [some (.ref 0), some (.ref 4), some (.ref 19), some (.int 0)]) (S1 := [.ref 0, .ref 19, .int (-1)]) zd0_1053 rfl rfl rfl ?_
      refine z_e1 (pc1 := 1055) (L1 := [some (.ref 0), some (.ref 4), some (.ref 19), some (.int 0)]) (S1 := [.int 0, .ref 0, .ref 19, .int (-1)]) zd0_1054 rfl rfl rfl ?_
      refine z_e1 (pc1 := 1056) (L1 := [some (.ref 0), some (.ref 4), some (.ref 19), some (.int 0)]) (S1 := [.int 1, .int 0, .ref 0, .ref 19, .int (-1)]) zd0_1055 rfl rfl rfl ?_
      refine z_e1 (pc1 := 1057) (L1 := [some (.ref 0), some (.ref 4), some (.ref 19), some (.int 0)]) (S1 := [.int 1, .ref 0, .ref 19, .int (-1)]) zd0_1056 rfl rfl rfl ?_
      refine z_eial (y := x1) zd0_1057 h0 (by decide) g1 ?_
      refine z_e1 (pc1 := 1059) (L1 := [some (.ref 0), some (.ref 4), some (.ref 19), some (.int 0)]) (S1 := [.ref 0, .int x1, .ref 19, .int (-1)]) zd0_1058 rfl rfl rfl ?_
      refine z_e1 (pc1 := 1060) (L1 := [some (.ref 0), some (.ref 4), some (.ref 19), some (.int 0)]) (S1 := [.int 0, .ref 0, .int x1, .ref 19, .int (-1)]) zd0_1059 rfl rfl rfl ?_
      refine z_e1 (pc1 := 1061) (L1 := [some (.ref 0), some (.ref 4), some (.ref 19), some (.int 0)]) (S1 := [.int 2, .int 0, .ref 0, .int x1, .ref 19, .int (-1)]) zd0_1060 rfl rfl rfl ?_
      refine z_e1 (pc1 := 1062) (L1 := [some (.ref 0), some (.ref 4), some (.ref 19), some (.int 0)]) (S1 := [.int 2, .ref 0, .int x1, .ref 19, .int (-1)]) zd0_1061 rfl rfl rfl ?_
      refine z_eial (y := x2) zd0_1062 h0 (by decide) g2 ?_
      refine z_e1 (pc1 := 1064) (L1 := [some (.ref 0), some (.ref 4), some (.ref 19), some (.int 0)]) (S1 := [.ref 0, .int x2, .int x1, .ref 19, .int (-1)]) zd0_1063 rfl rfl rfl ?_
      refine z_e1 (pc1 := 1065) (L1 := [some (.ref 0), some (.ref 4), some (.ref 19), some (.int 0)]) (S1 := [.int 0, .ref 0, .int x2, .int x1, .ref 19, .int (-1)]) zd0_1064 rfl rfl rfl ?_
      refine z_e1 (pc1 := 1066) (L1 := [some (.ref 0), some (.ref 4), some (.ref 19), some (.int 0)]) (S1 := [.int 3, .int 0, .ref 0, .int x2, .int x1, .ref 19, .int (-1)]) zd0_1065 rfl rfl rfl ?_
      refine z_e1 (pc1 := 1067) (L1 := [some (.ref 0), some (.ref 4), some (.ref 19), some (.int 0)]) (S1 := [.int 3, .ref 0, .int x2, .int x1, .ref 19, .int (-1)]) zd0_1066 rfl rfl rfl ?_
      refine z_eial (y := x3) zd0_1067 h0 (by decide) g3 ?_
      refine z_e1 (pc1 := 1069) (L1 := [some (.ref 0), some (.ref 4), some (.ref 19), some (.int 0)]) (S1 := [.ref 0, .int x3, .int x2, .int x1, .ref 19, .int (-1)]) zd0_1068 rfl rfl rfl ?_
      refine z_e1 (pc1 := 1070) (L1 := [some (.ref 0), some (.ref 4), some (.ref 19), some (.int 0)]) (S1 := [.int 0, .ref 0, .int x3, .int x2, .int x1, .ref 19, .int (-1)]) zd0_1069 rfl rfl rfl ?_
      refine z_e1 (pc1 := 1071) (L1 := [some (.ref 0), some (.ref 4), some (.ref 19), some (.int 0)]) (S1 := [.int 4, .int 0, .ref 0, .int x3, .int x2, .int x1, .ref 19, .int (-1)]) zd0_1070 rfl rfl rfl ?_
      refine z_e1 (pc1 := 1072) (L1 := [some (.ref 0), some (.ref 4), some (.ref 19), some (.int 0)]) (S1 := [.int 4, .ref 0, .int x3, .int x2, .int x1, .ref 19, .int (-1)]) zd0_1071 rfl rfl rfl ?_
      refine z_eial (y := x4) zd0_1072 h0 (by decide) g4 ?_
      refine z_e1 (pc1 := 1074) (L1 := [some (.ref 0), some (.ref 4), some (.ref 19), some (.int 0)]) (S1 := [.ref 0, .int x4, .int x3, .int x2, .int x1, .ref 19, .int (-1)]) zd0_1073 rfl rfl rfl ?_
      refine z_e1 (pc1 := 1075) (L1 := [some (.ref 0), some (.ref 4), some (.ref 19), some (.int 0)]) (S1 := [.int 0, .ref 0, .int x4, .int x3, .int x2, .int x1, .ref 19, .int (-1)]) zd0_1074 rfl rfl rfl ?_
      refine z_e1 (pc1 := 1076) (L1 := [some (.ref 0), some (.ref 4), some (.ref 19), some (.int 0)]) (S1 := [.int 5, .int 0, .ref 0, .int x4, .int x3, .int x2, .int x1, .ref 19, .int (-1)]) zd0_1075 rfl rfl rfl ?_
      refine z_e1 (pc1 := 1077) (L1 := [some (.ref 0), some (.ref 4), some (.ref 19), some (.int 0)]) (S1 := [.int 5, .ref 0, .int x4, .int x3, .int x2, .int x1, .ref 19, .int (-1)]) zd0_1076 rfl rfl rfl ?_
      refine z_eial (y := x5) zd0_1077 h0 (by decide) g5 ?_
      refine z_ecV (vs := [.ref 19, .int x1, .int x2, .int x3, .int x4, .int x5]) (r := [.int (-1)]) (L2 := [some (.ref 19), some (.int x1), some (.int x2), some (.int x3), some (.int x4), some (.int x5), none, none, none, none, none, none, none]) zd0_1078 zcV0_106 (Or.inl rfl) rfl b19 (by decide) rfl rfl rfl (Nat.le_of_ble_eq_true rfl) zm258 (Nat.le_of_ble_eq_true rfl) rfl ?_
      refine z_e1 (pc1 := 1) (L1 := [some (.ref 19), some (.int x1), some (.int x2), some (.int x3), some (.int x4), some (.int x5), none, none, none, none, none, none, none]) (S1 := [.ref 19]) zd258_0 rfl rfl rfl ?_
      refine z_e1 (pc1 := 2) (L1 := [some (.ref 19), some (.int x1), some (.int x2), some (.int x3), some (.int x4), some (.int x5), none, none, none, none, none, none, none]) (S1 := [.int x1, .ref 19]) zd258_1 rfl rfl rfl ?_
      refine z_ecV (vs := [.ref 19, .int x1]) (r := []) (L2 := [some (.ref 19), some (.int x1)]) zd258_2 zcV258_272 (Or.inl rfl) rfl b19 (by decide) rfl rfl rfl (Nat.le_of_ble_eq_true rfl) zm237 (Nat.le_of_ble_eq_true rfl) rfl ?_
      refine z_e1 (pc1 := 1) (L1 := [some (.ref 19), some (.int x1)]) (S1 := [.int x1]) zd237_0 rfl rfl rfl ?_
      refine z_ez (t := 16) (t2 := 16) zd237_1 rfl (z_b_ltx1 (k := 0) (by decide) (show x1.toInt < 0 from by omega)) ?_
      refine z_e1 (pc1 := 17) (L1 := [some (.ref 19), some (.int x1)]) (S1 := [.int 0]) zd237_16 rfl rfl rfl ?_
      refine z_erz zd237_17 zr237 (by decide) ?_
      show z_ev _ 258 5 [some (.ref 19), some (.int x1), some (.int x2), some (.int x3), some (.int x4), some (.int x5), none, none, none, none, none, none, none] [.int 0] _ _
      refine z_ez (t := 27) (t2 := 27) zd258_5 rfl rfl ?_
      refine z_e1 (pc1 := 28) (L1 := [some (.ref 19), some (.int x1), some (.int x2), some (.int x3), some (.int x4), some (.int x5), none, none, none, none, none, none, none]) (S1 := [.int (-1)]) zd258_27 rfl rfl rfl ?_
      refine z_eri zd258_28 zr258 ?_
      show z_ev _ 0 1081 [some (.ref 0), some (.ref 4), some (.ref 19), some (.int 0)] [.int (-1), .int (-1)] _ _
      refine z_ej (t := 1775) (t2 := 1775) zd0_1081 rfl rfl ?_
      refine z_e1 (pc1 := 1778) (L1 := [some (.ref 0), some (.ref 4), some (.ref 19), some (.int 6)]) (S1 := []) zd0_1775 rfl rfl rfl ?_
      refine z_e1 (pc1 := 18) (L1 := [some (.ref 0), some (.ref 4), some (.ref 19), some (.int 6)]) (S1 := []) zd0_1778 rfl rfl rfl ?_
      refine z_e1 (pc1 := 19) (L1 := [some (.ref 0), some (.ref 4), some (.ref 19), some (.int 6)]) (S1 := [.int 6]) zd0_18 rfl rfl rfl ?_
      refine z_e1 (pc1 := 20) (L1 := [some (.ref 0), some (.ref 4), some (.ref 19), some (.int 6)]) (S1 := [.ref 0, .int 6]) zd0_19 rfl rfl rfl ?_
      refine z_ealn (y := 6) zd0_20 h0 rfl ?_
      refine z_e1 (pc1 := 23) (L1 := [some (.ref 0), some (.ref 4), some (.ref 19), some (.int 6)]) (S1 := [.int 6, .int 6, .int 6]) zd0_21 rfl rfl rfl ?_
      refine z_e1 (pc1 := 24) (L1 := [some (.ref 0), some (.ref 4), some (.ref 19), some (.int 6)]) (S1 := [.int 0, .int 6]) zd0_23 rfl rfl rfl ?_
      refine z_ej (t := 1781) (t2 := 1781) zd0_24 rfl rfl ?_
      refine z_e1 (pc1 := 1782) (L1 := [some (.ref 0), some (.ref 4), some (.ref 19), some (.int 6)]) (S1 := [.int 1]) zd0_1781 rfl rfl rfl ?_
      refine z_erz zd0_1782 zr0 (by decide) ?_
      exact z_K1i hN hS (by decide) (by decide)
  · refine z_ez (t := 12) (t2 := 4) zd84_1 rfl (z_b_ltx0 (k := 0) (by decide) e1) ?_
    refine z_e1 (pc1 := 5) (L1 := [some (.ref 4), some (.int x1)]) (S1 := [.int x1]) zd84_4 rfl rfl rfl ?_
    refine z_e1 (pc1 := 6) (L1 := [some (.ref 4), some (.int x1)]) (S1 := [.ref 4, .int x1]) zd84_5 rfl rfl rfl ?_
    refine z_egf (fs := [.ref 5, .ref 10, .ref 11, .int 0, .ref 12, .int 0, .ref 13, .ref 14, .ref 15, .ref 16, .ref 17, .ref 18, .null]) (v := .int 0) zd84_6 zf84_188 b4 (by decide) (by decide) rfl ?_
    refine z_ej (t := 16) (t2 := 12) zd84_9 rfl (z_b_ltx0 (k := 0) (by decide) (show ¬ x1.toInt < 0 from by omega)) ?_
    refine z_e1 (pc1 := 13) (L1 := [some (.ref 4), some (.int x1)]) (S1 := [.null]) zd84_12 rfl rfl rfl ?_
    refine z_e1 (pc1 := 22) (L1 := [some (.ref 4), some (.int x1)]) (S1 := [.null]) zd84_13 rfl rfl rfl ?_
    refine z_ern zd84_22 zr84 ?_
    show z_ev _ 112 5 [some (.ref 4), some (.int x1), some (.int x2), some (.int x3), some (.int x4), some (.int x5), none, none, none] [.null] _ _
    refine z_e1 (pc1 := 7) (L1 := [some (.ref 4), some (.int x1), some (.int x2), some (.int x3), some (.int x4), some (.int x5), some (.null), none, none]) (S1 := []) zd112_5 rfl rfl rfl ?_
    refine z_e1 (pc1 := 8) (L1 := [some (.ref 4), some (.int x1), some (.int x2), some (.int x3), some (.int x4), some (.int x5), some (.null), none, none]) (S1 := [.ref 4]) zd112_7 rfl rfl rfl ?_
    refine z_e1 (pc1 := 9) (L1 := [some (.ref 4), some (.int x1), some (.int x2), some (.int x3), some (.int x4), some (.int x5), some (.null), none, none]) (S1 := [.int x2, .ref 4]) zd112_8 rfl rfl rfl ?_
    refine z_ecV (vs := [.ref 4, .int x2]) (r := []) (L2 := [some (.ref 4), some (.int x2)]) zd112_9 zcV112_221 (Or.inl rfl) rfl b4 (by decide) rfl rfl rfl (Nat.le_of_ble_eq_true rfl) zm84 (Nat.le_of_ble_eq_true rfl) rfl ?_
    refine z_e1 (pc1 := 1) (L1 := [some (.ref 4), some (.int x2)]) (S1 := [.int x2]) zd84_0 rfl rfl rfl ?_
    by_cases e3 : x2.toInt < 0
    · refine z_ez (t := 12) (t2 := 12) zd84_1 rfl (z_b_ltx1 (k := 0) (by decide) e3) ?_
      refine z_e1 (pc1 := 13) (L1 := [some (.ref 4), some (.int x2)]) (S1 := [.null]) zd84_12 rfl rfl rfl ?_
      refine z_e1 (pc1 := 22) (L1 := [some (.ref 4), some (.int x2)]) (S1 := [.null]) zd84_13 rfl rfl rfl ?_
      refine z_ern zd84_22 zr84 ?_
      show z_ev _ 112 12 [some (.ref 4), some (.int x1), some (.int x2), some (.int x3), some (.int x4), some (.int x5), some (.null), none, none] [.null] _ _
      refine z_e1 (pc1 := 14) (L1 := [some (.ref 4), some (.int x1), some (.int x2), some (.int x3), some (.int x4), some (.int x5), some (.null), some (.null), none]) (S1 := []) zd112_12 rfl rfl rfl ?_
      refine z_e1 (pc1 := 16) (L1 := [some (.ref 4), some (.int x1), some (.int x2), some (.int x3), some (.int x4), some (.int x5), some (.null), some (.null), none]) (S1 := [.null]) zd112_14 rfl rfl rfl ?_
      refine z_e1 (pc1 := 32) (L1 := [some (.ref 4), some (.int x1), some (.int x2), some (.int x3), some (.int x4), some (.int x5), some (.null), some (.null), none]) (S1 := []) zd112_16 rfl rfl rfl ?_
      refine z_e1 (pc1 := 33) (L1 := [some (.ref 4), some (.int x1), some (.int x2), some (.int x3), some (.int x4), some (.int x5), some (.null), some (.null), none]) (S1 := [.int (-1)]) zd112_32 rfl rfl rfl ?_
      refine z_eri zd112_33 zr112 ?_
      show z_ev _ 0 1052 [some (.ref 0), some (.ref 4), some (.ref 19), some (.int 0)] [.int (-1)] _ _
      refine z_e1 (pc1 := 1053) (L1 := [some (.ref 0), some (.ref 4), some (.ref 19), some (.int 0)]) (S1 := [.ref 19, .int (-1)]) zd0_1052 rfl rfl rfl ?_
      refine z_e1 (pc1 := 1054) (L1 := [some (.ref 0), some (.ref 4), some (.ref 19), some (.int 0)]) (S1 := [.ref 0, .ref 19, .int (-1)]) zd0_1053 rfl rfl rfl ?_
      refine z_e1 (pc1 := 1055) (L1 := [some (.ref 0), some (.ref 4), some (.ref 19), some (.int 0)]) (S1 := [.int 0, .ref 0, .ref 19, .int (-1)]) zd0_1054 rfl rfl rfl ?_
      refine z_e1 (pc1 := 1056) (L1 := [some (.ref 0), some (.ref 4), some (.ref 19), some (.int 0)]) (S1 := [.int 1, .int 0, .ref 0, .ref 19, .int (-1)]) zd0_1055 rfl rfl rfl ?_
      refine z_e1 (pc1 := 1057) (L1 := [some (.ref 0), some (.ref 4), some (.ref 19), some (.int 0)]) (S1 := [.int 1, .ref 0, .ref 19, .int (-1)]) zd0_1056 rfl rfl rfl ?_
      refine z_eial (y := x1) zd0_1057 h0 (by decide) g1 ?_
      refine z_e1 (pc1 := 1059) (L1 := [some (.ref 0), some (.ref 4), some (.ref 19), some (.int 0)]) (S1 := [.ref 0, .int x1, .ref 19, .int (-1)]) zd0_1058 rfl rfl rfl ?_
      refine z_e1 (pc1 := 1060) (L1 := [some (.ref 0), some (.ref 4), some (.ref 19), some (.int 0)]) (S1 := [.int 0, .ref 0, .int x1, .ref 19, .int (-1)]) zd0_1059 rfl rfl rfl ?_
      refine z_e1 (pc1 := 1061) (L1 := [some (.ref 0), some (.ref 4), some (.ref 19), some (.int 0)]) (S1 := [.int 2, .int 0, .ref 0, .int x1, .ref 19, .int (-1)]) zd0_1060 rfl rfl rfl ?_
      refine z_e1 (pc1 := 1062) (L1 := [some (.ref 0), some (.ref 4), some (.ref 19), some (.int 0)]) (S1 := [.int 2, .ref 0, .int x1, .ref 19, .int (-1)]) zd0_1061 rfl rfl rfl ?_
      refine z_eial (y := x2) zd0_1062 h0 (by decide) g2 ?_
      refine z_e1 (pc1 := 1064) (L1 := [some (.ref 0), some (.ref 4), some (.ref 19), some (.int 0)]) (S1 := [.ref 0, .int x2, .int x1, .ref 19, .int (-1)]) zd0_1063 rfl rfl rfl ?_
      refine z_e1 (pc1 := 1065) (L1 := [some (.ref 0), some (.ref 4), some (.ref 19), some (.int 0)]) (S1 := [.int 0, .ref 0, .int x2, .int x1, .ref 19, .int (-1)]) zd0_1064 rfl rfl rfl ?_
      refine z_e1 (pc1 := 1066) (L1 := [some (.ref 0), some (.ref 4), some (.ref 19), some (.int 0)]) (S1 := [.int 3, .int 0, .ref 0, .int x2, .int x1, .ref 19, .int (-1)]) zd0_1065 rfl rfl rfl ?_
      refine z_e1 (pc1 := 1067) (L1 := [some (.ref 0), some (.ref 4), some (.ref 19), some (.int 0)]) (S1 := [.int 3, .ref 0, .int x2, .int x1, .ref 19, .int (-1)]) zd0_1066 rfl rfl rfl ?_
      refine z_eial (y := x3) zd0_1067 h0 (by decide) g3 ?_
      refine z_e1 (pc1 := 1069) (L1 := [some (.ref 0), some (.ref 4), some (.ref 19), some (.int 0)]) (S1 := [.ref 0, .int x3, .int x2, .int x1, .ref 19, .int (-1)]) zd0_1068 rfl rfl rfl ?_
      refine z_e1 (pc1 := 1070) (L1 := [some (.ref 0), some (.ref 4), some (.ref 19), some (.int 0)]) (S1 := [.int 0, .ref 0, .int x3, .int x2, .int x1, .ref 19, .int (-1)]) zd0_1069 rfl rfl rfl ?_
      refine z_e1 (pc1 := 1071) (L1 := [some (.ref 0), some (.ref 4), some (.ref 19), some (.int 0)]) (S1 := [.int 4, .int 0, .ref 0, .int x3, .int x2, .int x1, .ref 19, .int (-1)]) zd0_1070 rfl rfl rfl ?_
      refine z_e1 (pc1 := 1072) (L1 := [some (.ref 0), some (.ref 4), some (.ref 19), some (.int 0)]) (S1 := [.int 4, .ref 0, .int x3, .int x2, .int x1, .ref 19, .int (-1)]) zd0_1071 rfl rfl rfl ?_
      refine z_eial (y := x4) zd0_1072 h0 (by decide) g4 ?_
      refine z_e1 (pc1 := 1074) (L1 := [some (.ref 0), some (.ref 4), some (.ref 19), some (.int 0)]) (S1 := [.ref 0, .int x4, .int x3, .int x2, .int x1, .ref 19, .int (-1)]) zd0_1073 rfl rfl rfl ?_
      refine z_e1 (pc1 := 1075) (L1 := [some (.ref 0), some (.ref 4), some (.ref 19), some (.int 0)]) (S1 := [.int 0, .ref 0, .int x4, .int x3, .int x2, .int x1, .ref 19, .int (-1)]) zd0_1074 rfl rfl rfl ?_
      refine z_e1 (pc1 := 1076) (L1 := [some (.ref 0), some (.ref 4), some (.ref 19), some (.int 0)]) (S1 := [.int 5, .int 0, .ref 0, .int x4, .int x3, .int x2, .int x1, .ref 19, .int (-1)]) zd0_1075 rfl rfl rfl ?_
      refine z_e1 (pc1 := 1077) (L1 := [some (.ref 0), some (.ref 4), some (.ref 19), some (.int 0)]) (S1 := [.int 5, .ref 0, .int x4, .int x3, .int x2, .int x1, .ref 19, .int (-1)]) zd0_1076 rfl rfl rfl ?_
      refine z_eial (y := x5) zd0_1077 h0 (by decide) g5 ?_
      refine z_ecV (vs := [.ref 19, .int x1, .int x2, .int x3, .int x4, .int x5]) (r := [.int (-1)]) (L2 := [some (.ref 19), some (.int x1), some (.int x2), some (.int x3), some (.int x4), some (.int x5), none, none, none, none, none, none, none]) zd0_1078 zcV0_106 (Or.inl rfl) rfl b19 (by decide) rfl rfl rfl (Nat.le_of_ble_eq_true rfl) zm258 (Nat.le_of_ble_eq_true rfl) rfl ?_
      refine z_e1 (pc1 := 1) (L1 := [some (.ref 19), some (.int x1), some (.int x2), some (.int x3), some (.int x4), some (.int x5), none, none, none, none, none, none, none]) (S1 := [.ref 19]) zd258_0 rfl rfl rfl ?_
      refine z_e1 (pc1 := 2) (L1 := [some (.ref 19), some (.int x1), some (.int x2), some (.int x3), some (.int x4), some (.int x5), none, none, none, none, none, none, none]) (S1 := [.int x1, .ref 19]) zd258_1 rfl rfl rfl ?_
      refine z_ecV (vs := [.ref 19, .int x1]) (r := []) (L2 := [some (.ref 19), some (.int x1)]) zd258_2 zcV258_272 (Or.inl rfl) rfl b19 (by decide) rfl rfl rfl (Nat.le_of_ble_eq_true rfl) zm237 (Nat.le_of_ble_eq_true rfl) rfl ?_
      refine z_e1 (pc1 := 1) (L1 := [some (.ref 19), some (.int x1)]) (S1 := [.int x1]) zd237_0 rfl rfl rfl ?_
      refine z_ez (t := 16) (t2 := 4) zd237_1 rfl (z_b_ltx0 (k := 0) (by decide) (show ¬ x1.toInt < 0 from by omega)) ?_
      refine z_e1 (pc1 := 5) (L1 := [some (.ref 19), some (.int x1)]) (S1 := [.int x1]) zd237_4 rfl rfl rfl ?_
      refine z_e1 (pc1 := 6) (L1 := [some (.ref 19), some (.int x1)]) (S1 := [.ref 19, .int x1]) zd237_5 rfl rfl rfl ?_
      refine z_egf (fs := [.ref 20, .int 0, .ref 21, .ref 22, .ref 23, .ref 24, .ref 25, .ref 26, .ref 27, .ref 28, .ref 29, .ref 30, .ref 31, .int 0, .ref 32, .ref 33, .ref 34, .ref 35, .ref 36, .ref 37, .ref 38, .int 0, .int 0, .int 0, .int 0, .int 0, .int 0, .int 0, .int 0, .int 0, .int 0, .ref 39, .ref 40, .ref 41, .int 0, .int 0, .ref 42, .ref 43, .ref 44, .ref 45, .ref 46, .int 0, .ref 47, .int 0, .int 0, .int 0, .ref 48, .int 0, .int 0, .ref 49, .ref 50, .ref 51, .ref 52]) (v := .int 0) zd237_6 zf237_269 b19 (by decide) (by decide) rfl ?_
      refine z_ej (t := 16) (t2 := 16) zd237_9 rfl (z_b_gex0 (k := 0) (by decide) (show ¬ x1.toInt < 0 from by omega)) ?_
      refine z_e1 (pc1 := 17) (L1 := [some (.ref 19), some (.int x1)]) (S1 := [.int 0]) zd237_16 rfl rfl rfl ?_
      refine z_erz zd237_17 zr237 (by decide) ?_
      show z_ev _ 258 5 [some (.ref 19), some (.int x1), some (.int x2), some (.int x3), some (.int x4), some (.int x5), none, none, none, none, none, none, none] [.int 0] _ _
      refine z_ez (t := 27) (t2 := 27) zd258_5 rfl rfl ?_
      refine z_e1 (pc1 := 28) (L1 := [some (.ref 19), some (.int x1), some (.int x2), some (.int x3), some (.int x4), some (.int x5), none, none, none, none, none, none, none]) (S1 := [.int (-1)]) zd258_27 rfl rfl rfl ?_
      refine z_eri zd258_28 zr258 ?_
      show z_ev _ 0 1081 [some (.ref 0), some (.ref 4), some (.ref 19), some (.int 0)] [.int (-1), .int (-1)] _ _
      refine z_ej (t := 1775) (t2 := 1775) zd0_1081 rfl rfl ?_
      refine z_e1 (pc1 := 1778) (L1 := [some (.ref 0), some (.ref 4), some (.ref 19), some (.int 6)]) (S1 := []) zd0_1775 rfl rfl rfl ?_
      refine z_e1 (pc1 := 18) (L1 := [some (.ref 0), some (.ref 4), some (.ref 19), some (.int 6)]) (S1 := []) zd0_1778 rfl rfl rfl ?_
      refine z_e1 (pc1 := 19) (L1 := [some (.ref 0), some (.ref 4), some (.ref 19), some (.int 6)]) (S1 := [.int 6]) zd0_18 rfl rfl rfl ?_
      refine z_e1 (pc1 := 20) (L1 := [some (.ref 0), some (.ref 4), some (.ref 19), some (.int 6)]) (S1 := [.ref 0, .int 6]) zd0_19 rfl rfl rfl ?_
      refine z_ealn (y := 6) zd0_20 h0 rfl ?_
      refine z_e1 (pc1 := 23) (L1 := [some (.ref 0), some (.ref 4), some (.ref 19), some (.int 6)]) (S1 := [.int 6, .int 6, .int 6]) zd0_21 rfl rfl rfl ?_
      refine z_e1 (pc1 := 24) (L1 := [some (.ref 0), some (.ref 4), some (.ref 19), some (.int 6)]) (S1 := [.int 0, .int 6]) zd0_23 rfl rfl rfl ?_
      refine z_ej (t := 1781) (t2 := 1781) zd0_24 rfl rfl ?_
      refine z_e1 (pc1 := 1782) (L1 := [some (.ref 0), some (.ref 4), some (.ref 19), some (.int 6)]) (S1 := [.int 1]) zd0_1781 rfl rfl rfl ?_
      refine z_erz zd0_1782 zr0 (by decide) ?_
      exact z_K1i hN hS (by decide) (by decide)
    · refine z_ez (t := 12) (t2 := 4) zd84_1 rfl (z_b_ltx0 (k := 0) (by decide) e3) ?_
      refine z_e1 (pc1 := 5) (L1 := [some (.ref 4), some (.int x2)]) (S1 := [.int x2]) zd84_4 rfl rfl rfl ?_
      refine z_e1 (pc1 := 6) (L1 := [some (.ref 4), some (.int x2)]) (S1 := [.ref 4, .int x2]) zd84_5 rfl rfl rfl ?_
      refine z_egf (fs := [.ref 5, .ref 10, .ref 11, .int 0, .ref 12, .int 0, .ref 13, .ref 14, .ref 15, .ref 16, .ref 17, .ref 18, .null]) (v := .int 0) zd84_6 zf84_188 b4 (by decide) (by decide) rfl ?_
      refine z_ej (t := 16) (t2 := 12) zd84_9 rfl (z_b_ltx0 (k := 0) (by decide) (show ¬ x2.toInt < 0 from by omega)) ?_
      refine z_e1 (pc1 := 13) (L1 := [some (.ref 4), some (.int x2)]) (S1 := [.null]) zd84_12 rfl rfl rfl ?_
      refine z_e1 (pc1 := 22) (L1 := [some (.ref 4), some (.int x2)]) (S1 := [.null]) zd84_13 rfl rfl rfl ?_
      refine z_ern zd84_22 zr84 ?_
      show z_ev _ 112 12 [some (.ref 4), some (.int x1), some (.int x2), some (.int x3), some (.int x4), some (.int x5), some (.null), none, none] [.null] _ _
      refine z_e1 (pc1 := 14) (L1 := [some (.ref 4), some (.int x1), some (.int x2), some (.int x3), some (.int x4), some (.int x5), some (.null), some (.null), none]) (S1 := []) zd112_12 rfl rfl rfl ?_
      refine z_e1 (pc1 := 16) (L1 := [some (.ref 4), some (.int x1), some (.int x2), some (.int x3), some (.int x4), some (.int x5), some (.null), some (.null), none]) (S1 := [.null]) zd112_14 rfl rfl rfl ?_
      refine z_e1 (pc1 := 32) (L1 := [some (.ref 4), some (.int x1), some (.int x2), some (.int x3), some (.int x4), some (.int x5), some (.null), some (.null), none]) (S1 := []) zd112_16 rfl rfl rfl ?_
      refine z_e1 (pc1 := 33) (L1 := [some (.ref 4), some (.int x1), some (.int x2), some (.int x3), some (.int x4), some (.int x5), some (.null), some (.null), none]) (S1 := [.int (-1)]) zd112_32 rfl rfl rfl ?_
      refine z_eri zd112_33 zr112 ?_
      show z_ev _ 0 1052 [some (.ref 0), some (.ref 4), some (.ref 19), some (.int 0)] [.int (-1)] _ _
      refine z_e1 (pc1 := 1053) (L1 := [some (.ref 0), some (.ref 4), some (.ref 19), some (.int 0)]) (S1 := [.ref 19, .int (-1)]) zd0_1052 rfl rfl rfl ?_
      refine z_e1 (pc1 := 1054) (L1 := [some (.ref 0), some (.ref 4), some (.ref 19), some (.int 0)]) (S1 := [.ref 0, .ref 19, .int (-1)]) zd0_1053 rfl rfl rfl ?_
      refine z_e1 (pc1 := 1055) (L1 := [some (.ref 0), some (.ref 4), some (.ref 19), some (.int 0)]) (S1 := [.int 0, .ref 0, .ref 19, .int (-1)]) zd0_1054 rfl rfl rfl ?_
      refine z_e1 (pc1 := 1056) (L1 := [some (.ref 0), some (.ref 4), some (.ref 19), some (.int 0)]) (S1 := [.int 1, .int 0, .ref 0, .ref 19, .int (-1)]) zd0_1055 rfl rfl rfl ?_
      refine z_e1 (pc1 := 1057) (L1 := [some (.ref 0), some (.ref 4), some (.ref 19), some (.int 0)]) (S1 := [.int 1, .ref 0, .ref 19, .int (-1)]) zd0_1056 rfl rfl rfl ?_
      refine z_eial (y := x1) zd0_1057 h0 (by decide) g1 ?_
      refine z_e1 (pc1 := 1059) (L1 := [some (.ref 0), some (.ref 4), some (.ref 19), some (.int 0)]) (S1 := [.ref 0, .int x1, .ref 19, .int (-1)]) zd0_1058 rfl rfl rfl ?_
      refine z_e1 (pc1 := 1060) (L1 := [some (.ref 0), some (.ref 4), some (.ref 19), some (.int 0)]) (S1 := [.int 0, .ref 0, .int x1, .ref 19, .int (-1)]) zd0_1059 rfl rfl rfl ?_
      refine z_e1 (pc1 := 1061) (L1 := [some (.ref 0), some (.ref 4), some (.ref 19), some (.int 0)]) (S1 := [.int 2, .int 0, .ref 0, .int x1, .ref 19, .int (-1)]) zd0_1060 rfl rfl rfl ?_
      refine z_e1 (pc1 := 1062) (L1 := [some (.ref 0), some (.ref 4), some (.ref 19), some (.int 0)]) (S1 := [.int 2, .ref 0, .int x1, .ref 19, .int (-1)]) zd0_1061 rfl rfl rfl ?_
      refine z_eial (y := x2) zd0_1062 h0 (by decide) g2 ?_
      refine z_e1 (pc1 := 1064) (L1 := [some (.ref 0), some (.ref 4), some (.ref 19), some (.int 0)]) (S1 := [.ref 0, .int x2, .int x1, .ref 19, .int (-1)]) zd0_1063 rfl rfl rfl ?_
      refine z_e1 (pc1 := 1065) (L1 := [some (.ref 0), some (.ref 4), some (.ref 19), some (.int 0)]) (S1 := [.int 0, .ref 0, .int x2, .int x1, .ref 19, .int (-1)]) zd0_1064 rfl rfl rfl ?_
      refine z_e1 (pc1 := 1066) (L1 := [some (.ref 0), some (.ref 4), some (.ref 19), some (.int 0)]) (S1 := [.int 3, .int 0, .ref 0, .int x2, .int x1, .ref 19, .int (-1)]) zd0_1065 rfl rfl rfl ?_
      refine z_e1 (pc1 := 1067) (L1 := [some (.ref 0), some (.ref 4), some (.ref 19), some (.int 0)]) (S1 := [.int 3, .ref 0, .int x2, .int x1, .ref 19, .int (-1)]) zd0_1066 rfl rfl rfl ?_
      refine z_eial (y := x3) zd0_1067 h0 (by decide) g3 ?_
      refine z_e1 (pc1 := 1069) (L1 := [some (.ref 0), some (.ref 4), some (.ref 19), some (.int 0)]) (S1 := [.ref 0, .int x3, .int x2, .int x1, .ref 19, .int (-1)]) zd0_1068 rfl rfl rfl ?_
      refine z_e1 (pc1 := 1070) (L1 := [some (.ref 0), some (.ref 4), some (.ref 19), some (.int 0)]) (S1 := [.int 0, .ref 0, .int x3, .int x2, .int x1, .ref 19, .int (-1)]) zd0_1069 rfl rfl rfl ?_
      refine z_e1 (pc1 := 1071) (L1 := [some (.ref 0), some (.ref 4), some (.ref 19), some (.int 0)]) (S1 := [.int 4, .int 0, .ref 0, .int x3, .int x2, .int x1, .ref 19, .int (-1)]) zd0_1070 rfl rfl rfl ?_
      refine z_e1 (pc1 := 1072) (L1 := [some (.ref 0), some (.ref 4), some (.ref 19), some (.int 0)]) (S1 := [.int 4, .ref 0, .int x3, .int x2, .int x1, .ref 19, .int (-1)]) zd0_1071 rfl rfl rfl ?_
      refine z_eial (y := x4) zd0_1072 h0 (by decide) g4 ?_
      refine z_e1 (pc1 := 1074) (L1 := [some (.ref 0), some (.ref 4), some (.ref 19), some (.int 0)]) (S1 := [.ref 0, .int x4, .int x3, .int x2, .int x1, .ref 19, .int (-1)]) zd0_1073 rfl rfl rfl ?_
      refine z_e1 (pc1 := 1075) (L1 := [some (.ref 0), some (.ref 4), some (.ref 19), some (.int 0)]) (S1 := [.int 0, .ref 0, .int x4, .int x3, .int x2, .int x1, .ref 19, .int (-1)]) zd0_1074 rfl rfl rfl ?_
      refine z_e1 (pc1 := 1076) (L1 := [some (.ref 0), some (.ref 4), some (.ref 19), some (.int 0)]) (S1 := [.int 5, .int 0, .ref 0, .int x4, .int x3, .int x2, .int x1, .ref 19, .int (-1)]) zd0_1075 rfl rfl rfl ?_
      refine z_e1 (pc1 := 1077) (L1 := [some (.ref 0), some (.ref 4), some (.ref 19), some (.int 0)]) (S1 := [.int 5, .ref 0, .int x4, .int x3, .int x2, .int x1, .ref 19, .int (-1)]) zd0_1076 rfl rfl rfl ?_
      refine z_eial (y := x5) zd0_1077 h0 (by decide) g5 ?_
      refine z_ecV (vs := [.ref 19, .int x1, .int x2, .int x3, .int x4, .int x5]) (r := [.int (-1)]) (L2 := [some (.ref 19), some (.int x1), some (.int x2), some (.int x3), some (.int x4), some (.int x5), none, none, none, none, none, none, none]) zd0_1078 zcV0_106 (Or.inl rfl) rfl b19 (by decide) rfl rfl rfl (Nat.le_of_ble_eq_true rfl) zm258 (Nat.le_of_ble_eq_true rfl) rfl ?_
      refine z_e1 (pc1 := 1) (L1 := [some (.ref 19), some (.int x1), some (.int x2), some (.int x3), some (.int x4), some (.int x5), none, none, none, none, none, none, none]) (S1 := [.ref 19]) zd258_0 rfl rfl rfl ?_
      refine z_e1 (pc1 := 2) (L1 := [some (.ref 19), some (.int x1), some (.int x2), some (.int x3), some (.int x4), some (.int x5), none, none, none, none, none, none, none]) (S1 := [.int x1, .ref 19]) zd258_1 rfl rfl rfl ?_
      refine z_ecV (vs := [.ref 19, .int x1]) (r := []) (L2 := [some (.ref 19), some (.int x1)]) zd258_2 zcV258_272 (Or.inl rfl) rfl b19 (by decide) rfl rfl rfl (Nat.le_of_ble_eq_true rfl) zm237 (Nat.le_of_ble_eq_true rfl) rfl ?_
      refine z_e1 (pc1 := 1) (L1 := [some (.ref 19), some (.int x1)]) (S1 := [.int x1]) zd237_0 rfl rfl rfl ?_
      refine z_ez (t := 16) (t2 := 4) zd237_1 rfl (z_b_ltx0 (k := 0) (by decide) (show ¬ x1.toInt < 0 from by omega)) ?_
      refine z_e1 (pc1 := 5) (L1 := [some (.ref 19), some (.int x1)]) (S1 := [.int x1]) zd237_4 rfl rfl rfl ?_
      refine z_e1 (pc1 := 6) (L1 := [some (.ref 19), some (.int x1)]) (S1 := [.ref 19, .int x1]) zd237_5 rfl rfl rfl ?_
      refine z_egf (fs := [.ref 20, .int 0, .ref 21, .ref 22, .ref 23, .ref 24, .ref 25, .ref 26, .ref 27, .ref 28, .ref 29, .ref 30, .ref 31, .int 0, .ref 32, .ref 33, .ref 34, .ref 35, .ref 36, .ref 37, .ref 38, .int 0, .int 0, .int 0, .int 0, .int 0, .int 0, .int 0, .int 0, .int 0, .int 0, .ref 39, .ref 40, .ref 41, .int 0, .int 0, .ref 42, .ref 43, .ref 44, .ref 45, .ref 46, .int 0, .ref 47, .int 0, .int 0, .int 0, .ref 48, .int 0, .int 0, .ref 49, .ref 50, .ref 51, .ref 52]) (v := .int 0) zd237_6 zf237_269 b19 (by decide) (by decide) rfl ?_
      refine z_ej (t := 16) (t2 := 16) zd237_9 rfl (z_b_gex0 (k := 0) (by decide) (show ¬ x1.toInt < 0 from by omega)) ?_
      refine z_e1 (pc1 := 17) (L1 := [some (.ref 19), some (.int x1)]) (S1 := [.int 0]) zd237_16 rfl rfl rfl ?_
      refine z_erz zd237_17 zr237 (by decide) ?_
      show z_ev _ 258 5 [some (.ref 19), some (.int x1), some (.int x2), some (.int x3), some (.int x4), some (.int x5), none, none, none, none, none, none, none] [.int 0] _ _
      refine z_ez (t := 27) (t2 := 27) zd258_5 rfl rfl ?_
      refine z_e1 (pc1 := 28) (L1 := [some (.ref 19), some (.int x1), some (.int x2), some (.int x3), some (.int x4), some (.int x5), none, none, none, none, none, none, none]) (S1 := [.int (-1)]) zd258_27 rfl rfl rfl ?_
      refine z_eri zd258_28 zr258 ?_
      show z_ev _ 0 1081 [some (.ref 0), some (.ref 4), some (.ref 19), some (.int 0)] [.int (-1), .int (-1)] _ _
      refine z_ej (t := 1775) (t2 := 1775) zd0_1081 rfl rfl ?_
      refine z_e1 (pc1 := 1778) (L1 := [some (.ref 0), some (.ref 4), some (.ref 19), some (.int 6)]) (S1 := []) zd0_1775 rfl rfl rfl ?_
      refine z_e1 (pc1 := 18) (L1 := [some (.ref 0), some (.ref 4), some (.ref 19), some (.int 6)]) (S1 := []) zd0_1778 rfl rfl rfl ?_
      refine z_e1 (pc1 := 19) (L1 := [some (.ref 0), some (.ref 4), some (.ref 19), some (.int 6)]) (S1 := [.int 6]) zd0_18 rfl rfl rfl ?_
      refine z_e1 (pc1 := 20) (L1 := [some (.ref 0), some (.ref 4), some (.ref 19), some (.int 6)]) (S1 := [.ref 0, .int 6]) zd0_19 rfl rfl rfl ?_
      refine z_ealn (y := 6) zd0_20 h0 rfl ?_
      refine z_e1 (pc1 := 23) (L1 := [some (.ref 0), some (.ref 4), some (.ref 19), some (.int 6)]) (S1 := [.int 6, .int 6, .int 6]) zd0_21 rfl rfl rfl ?_
      refine z_e1 (pc1 := 24) (L1 := [some (.ref 0), some (.ref 4), some (.ref 19), some (.int 6)]) (S1 := [.int 0, .int 6]) zd0_23 rfl rfl rfl ?_
      refine z_ej (t := 1781) (t2 := 1781) zd0_24 rfl rfl ?_
      refine z_e1 (pc1 := 1782) (L1 := [some (.ref 0), some (.ref 4), some (.ref 19), some (.int 6)]) (S1 := [.int 1]) zd0_1781 rfl rfl rfl ?_
      refine z_erz zd0_1782 zr0 (by decide) ?_
      exact z_K1i hN hS (by decide) (by decide)
theorem z_C22 {M : zH} {xs : Nat → Int32} {x1 x2 x3 x4 x5 : Int32} (h0 : M[0]? = some (.inl (0, 6, .inl xs))) (hN : M.length = 53) (hS : z_sz M ≤ 50000) (hB : z_fr M 4 53) (g1 : xs 1 = x1) (g2 : xs 2 = x2) (g3 : xs 3 = x3) (g4 : xs 4 = x4) (g5 : xs 5 = x5) : z_ev 2047 0 1086 [some (.ref 0), some (.ref 4), some (.ref 19), some (.int 0)] [] M z_K1 := by
  have b4 := z_qO (hB 4 (by decide) (by decide))
  have b19 := z_qO (hB 19 (by decide) (by decide))
  refine z_e1 (pc1 := 1087) (L1 := [some (.ref 0), some (.ref 4), some (.ref 19), some (.int 0)]) (S1 := [.ref 4]) zd0_1086 rfl rfl rfl ?_
  refine z_e1 (pc1 := 1088) (L1 := [some (.ref 0), some (.ref 4), some (.ref 19), some (.int 0)]) (S1 := [.ref 0, .ref 4]) zd0_1087 rfl rfl rfl ?_
  refine z_e1 (pc1 := 1089) (L1 := [some (.ref 0), some (.ref 4), some (.ref 19), some (.int 0)]) (S1 := [.int 0, .ref 0, .ref 4]) zd0_1088 rfl rfl rfl ?_
  refine z_e1 (pc1 := 1090) (L1 := [some (.ref 0), some (.ref 4), some (.ref 19), some (.int 0)]) (S1 := [.int 1, .int 0, .ref 0, .ref 4]) zd0_1089 rfl rfl rfl ?_
  refine z_e1 (pc1 := 1091) (L1 := [some (.ref 0), some (.ref 4), some (.ref 19), some (.int 0)]) (S1 := [.int 1, .ref 0, .ref 4]) zd0_1090 rfl rfl rfl ?_
  refine z_eial (y := x1) zd0_1091 h0 (by decide) g1 ?_
  refine z_e1 (pc1 := 1093) (L1 := [some (.ref 0), some (.ref 4), some (.ref 19), some (.int 0)]) (S1 := [.ref 0, .int x1, .ref 4]) zd0_1092 rfl rfl rfl ?_
  refine z_e1 (pc1 := 1094) (L1 := [some (.ref 0), some (.ref 4), some (.ref 19), some (.int 0)]) (S1 := [.int 0, .ref 0, .int x1, .ref 4]) zd0_1093 rfl rfl rfl ?_
  refine z_e1 (pc1 := 1095) (L1 := [some (.ref 0), some (.ref 4), some (.ref 19), some (.int 0)]) (S1 := [.int 2, .int 0, .ref 0, .int x1, .ref 4]) zd0_1094 rfl rfl rfl ?_
  refine z_e1 (pc1 := 1096) (L1 := [some (.ref 0), some (.ref 4), some (.ref 19), some (.int 0)]) (S1 := [.int 2, .ref 0, .int x1, .ref 4]) zd0_1095 rfl rfl rfl ?_
  refine z_eial (y := x2) zd0_1096 h0 (by decide) g2 ?_
  refine z_e1 (pc1 := 1098) (L1 := [some (.ref 0), some (.ref 4), some (.ref 19), some (.int 0)]) (S1 := [.ref 0, .int x2, .int x1, .ref 4]) zd0_1097 rfl rfl rfl ?_
  refine z_e1 (pc1 := 1099) (L1 := [some (.ref 0), some (.ref 4), some (.ref 19), some (.int 0)]) (S1 := [.int 0, .ref 0, .int x2, .int x1, .ref 4]) zd0_1098 rfl rfl rfl ?_
  refine z_e1 (pc1 := 1100) (L1 := [some (.ref 0), some (.ref 4), some (.ref 19), some (.int 0)]) (S1 := [.int 3, .int 0, .ref 0, .int x2, .int x1, .ref 4]) zd0_1099 rfl rfl rfl ?_
  refine z_e1 (pc1 := 1101) (L1 := [some (.ref 0), some (.ref 4), some (.ref 19), some (.int 0)]) (S1 := [.int 3, .ref 0, .int x2, .int x1, .ref 4]) zd0_1100 rfl rfl rfl ?_
  refine z_eial (y := x3) zd0_1101 h0 (by decide) g3 ?_
  refine z_e1 (pc1 := 1103) (L1 := [some (.ref 0), some (.ref 4), some (.ref 19), some (.int 0)]) (S1 := [.ref 0, .int x3, .int x2, .int x1, .ref 4]) zd0_1102 rfl rfl rfl ?_
  refine z_e1 (pc1 := 1104) (L1 := [some (.ref 0), some (.ref 4), some (.ref 19), some (.int 0)]) (S1 := [.int 0, .ref 0, .int x3, .int x2, .int x1, .ref 4]) zd0_1103 rfl rfl rfl ?_
  refine z_e1 (pc1 := 1105) (L1 := [some (.ref 0), some (.ref 4), some (.ref 19), some (.int 0)]) (S1 := [.int 4, .int 0, .ref 0, .int x3, .int x2, .int x1, .ref 4]) zd0_1104 rfl rfl rfl ?_
  refine z_e1 (pc1 := 1106) (L1 := [some (.ref 0), some (.ref 4), some (.ref 19), some (.int 0)]) (S1 := [.int 4, .ref 0, .int x3, .int x2, .int x1, .ref 4]) zd0_1105 rfl rfl rfl ?_
  refine z_eial (y := x4) zd0_1106 h0 (by decide) g4 ?_
  refine z_ecV (vs := [.ref 4, .int x1, .int x2, .int x3, .int x4]) (r := []) (L2 := [some (.ref 4), some (.int x1), some (.int x2), some (.int x3), some (.int x4), none, none, none]) zd0_1107 zcV0_107 (Or.inl rfl) rfl b4 (by decide) rfl rfl rfl (Nat.le_of_ble_eq_true rfl) zm114 (Nat.le_of_ble_eq_true rfl) rfl ?_
  refine z_e1 (pc1 := 1) (L1 := [some (.ref 4), some (.int x1), some (.int x2), some (.int x3), some (.int x4), none, none, none]) (S1 := [.ref 4]) zd114_0 rfl rfl rfl ?_
  refine z_e1 (pc1 := 2) (L1 := [some (.ref 4), some (.int x1), some (.int x2), some (.int x3), some (.int x4), none, none, none]) (S1 := [.int x1, .ref 4]) zd114_1 rfl rfl rfl ?_
  refine z_ecV (vs := [.ref 4, .int x1]) (r := []) (L2 := [some (.ref 4), some (.int x1)]) zd114_2 zcV114_221 (Or.inl rfl) rfl b4 (by decide) rfl rfl rfl (Nat.le_of_ble_eq_true rfl) zm84 (Nat.le_of_ble_eq_true rfl) rfl ?_
  refine z_e1 (pc1 := 1) (L1 := [some (.ref 4), some (.int x1)]) (S1 := [.int x1]) zd84_0 rfl rfl rfl ?_
  by_cases e1 : x1.toInt < 0
  · refine z_ez (t := 12) (t2 := 12) zd84_1 rfl (z_b_ltx1 (k := 0) (by decide) e1) ?_
    refine z_e1 (pc1 := 13) (L1 := [some (.ref 4), some (.int x1)]) (S1 := [.null]) zd84_12 rfl rfl rfl ?_
    refine z_e1 (pc1 := 22) (L1 := [some (.ref 4), some (.int x1)]) (S1 := [.null]) zd84_13 rfl rfl rfl ?_
    refine z_ern zd84_22 zr84 ?_
    show z_ev _ 114 5 [some (.ref 4), some (.int x1), some (.int x2), some (.int x3), some (.int x4), none, none, none] [.null] _ _
    refine z_e1 (pc1 := 7) (L1 := [some (.ref 4), some (.int x1), some (.int x2), some (.int x3), some (.int x4), some (.null), none, none]) (S1 := []) zd114_5 rfl rfl rfl ?_
    refine z_e1 (pc1 := 8) (L1 := [some (.ref 4), some (.int x1), some (.int x2), some (.int x3), some (.int x4), some (.null), none, none]) (S1 := [.ref 4]) zd114_7 rfl rfl rfl ?_
    refine z_e1 (pc1 := 9) (L1 := [some (.ref 4), some (.int x1), some (.int x2), some (.int x3), some (.int x4), some (.null), none, none]) (S1 := [.int x2, .ref 4]) zd114_8 rfl rfl rfl ?_
    refine z_ecV (vs := [.ref 4, .int x2]) (r := []) (L2 := [some (.ref 4), some (.int x2)]) zd114_9 zcV114_108 (Or.inl rfl) rfl b4 (by decide) rfl rfl rfl (Nat.le_of_ble_eq_true rfl) zm37 (Nat.le_of_ble_eq_true rfl) rfl ?_
    refine z_e1 (pc1 := 1) (L1 := [some (.ref 4), some (.int x2)]) (S1 := [.int x2]) zd37_0 rfl rfl rfl ?_
    by_cases e2 : x2.toInt < 0
    · refine z_ez (t := 12) (t2 := 12) zd37_1 rfl (z_b_ltx1 (k := 0) (by decide) e2) ?_
      refine z_e1 (pc1 := 13) (L1 := [some (.ref 4), some (.int x2)]) (S1 := [.null]) zd37_12 rfl rfl rfl ?_
      refine z_e1 (pc1 := 25) (L1 := [some (.ref 4), some (.int x2)]) (S1 := [.null]) zd37_13 rfl rfl rfl ?_
      refine z_ern zd37_25 zr37 ?_
      show z_ev _ 114 12 [some (.ref 4), some (.int x1), some (.int x2), some (.int x3), some (.int x4), some (.null), none, none] [.null] _ _
      refine z_e1 (pc1 := 14) (L1 := [some (.ref 4), some (.int x1), some (.int x2), some (.int x3), some (.int x4), some (.null), some (.null), none]) (S1 := []) zd114_12 rfl rfl rfl ?_
      refine z_e1 (pc1 := 16) (L1 := [some (.ref 4), some (.int x1), some (.int x2), some (.int x3), some (.int x4), some (.null), some (.null), none]) (S1 := [.null]) zd114_14 rfl rfl rfl ?_
      refine z_e1 (pc1 := 34) (L1 := [some (.ref 4), some (.int x1), some (.int x2), some (.int x3), some (.int x4), some (.null), some (.null), none]) (S1 := []) zd114_16 rfl rfl rfl ?_
      refine z_e1 (pc1 := 35) (L1 := [some (.ref 4), some (.int x1), some (.int x2), some (.int x3), some (.int x4), some (.null), some (.null), none]) (S1 := [.int (-1)]) zd114_34 rfl rfl rfl ?_
      refine z_eri zd114_35 zr114 ?_
      show z_ev _ 0 1110 [some (.ref 0), some (.ref 4), some (.ref 19), some (.int 0)] [.int (-1)] _ _
      refine z_e1 (pc1 := 1111) (L1 := [some (.ref 0), some (.ref 4), some (.ref 19), some (.int 0)]) (S1 := [.ref 19, .int (-1)]) zd0_1110 rfl rfl rfl ?_
      refine z_e1 (pc1 := 1112) (L1 := [some (.ref 0), some (.ref 4), some (.ref 19), some (.int 0)]) (S1 := [.ref 0, .ref 19, .int (-1)]) zd0_1111 rfl rfl rfl ?_
      refine z_e1 (pc1 := 1113) (L1 := [some (.ref 0), some (.ref 4), some (.ref 19), some (.int 0)]) (S1 := [.int 0, .ref 0, .ref 19, .int (-1)]) zd0_1112 rfl rfl rfl ?_
      refine z_e1 (pc1 := 1114) (L1 := [some (.ref 0), some (.ref 4), some (.ref 19), some (.int 0)]) (S1 := [.int 1, .int 0, .ref 0, .ref 19, .int (-1)]) zd0_1113 rfl rfl rfl ?_
      refine z_e1 (pc1 := 1115) (L1 := [some (.ref 0), some (.ref 4), some (.ref 19), some (.int 0)]) (S1 := [.int 1, .ref 0, .ref 19, .int (-1)]) zd0_1114 rfl rfl rfl ?_
      refine z_eial (y := x1) zd0_1115 h0 (by decide) g1 ?_
      refine z_e1 (pc1 := 1117) (L1 := [some (.ref 0), some (.ref 4), some (.ref 19), some (.int 0)]) (S1 := [.ref 0, .int x1, .ref 19, .int (-1)]) zd0_1116 rfl rfl rfl ?_
      refine z_e1 (pc1 := 1118) (L1 := [some (.ref 0), some (.ref 4), some (.ref 19), some (.int 0)]) (S1 := [.int 0, .ref 0, .int x1, .ref 19, .int (-1)]) zd0_1117 rfl rfl rfl ?_
      refine z_e1 (pc1 := 1119) (L1 := [some (.ref 0), some (.ref 4), some (.ref 19), some (.int 0)]) (S1 := [.int 2, .int 0, .ref 0, .int x1, .ref 19, .int (-1)]) zd0_1118 rfl rfl rfl ?_
      refine z_e1 (pc1 := 1120) (L1 := [some (.ref 0), some (.ref 4), some (.ref 19), some (.int 0)]) (S1 := [.int 2, .ref 0, .int x1, .ref 19, .int (-1)]) zd0_1119 rfl rfl rfl ?_
      refine z_eial (y := x2) zd0_1120 h0 (by decide) g2 ?_
      refine z_e1 (pc1 := 1122) (L1 := [some (.ref 0), some (.ref 4), some (.ref 19), some (.int 0)]) (S1 := [.ref 0, .int x2, .int x1, .ref 19, .int (-1)]) zd0_1121 rfl rfl rfl ?_
      refine z_e1 (pc1 := 1123) (L1 := [some (.ref 0), some (.ref 4), some (.ref 19), some (.int 0)]) (S1 := [.int 0, .ref 0, .int x2, .int x1, .ref 19, .int (-1)]) zd0_1122 rfl rfl rfl ?_
      refine z_e1 (pc1 := 1124) (L1 := [some (.ref 0), some (.ref 4), some (.ref 19), some (.int 0)]) (S1 := [.int 3, .int 0, .ref 0, .int x2, .int x1, .ref 19, .int (-1)]) zd0_1123 rfl rfl rfl ?_
      refine z_e1 (pc1 := 1125) (L1 := [some (.ref 0), some (.ref 4), some (.ref 19), some (.int 0)]) (S1 := [.int 3, .ref 0, .int x2, .int x1, .ref 19, .int (-1)]) zd0_1124 rfl rfl rfl ?_
      refine z_eial (y := x3) zd0_1125 h0 (by decide) g3 ?_
      refine z_e1 (pc1 := 1127) (L1 := [some (.ref 0), some (.ref 4), some (.ref 19), some (.int 0)]) (S1 := [.ref 0, .int x3, .int x2, .int x1, .ref 19, .int (-1)]) zd0_1126 rfl rfl rfl ?_
      refine z_e1 (pc1 := 1128) (L1 := [some (.ref 0), some (.ref 4), some (.ref 19), some (.int 0)]) (S1 := [.int 0, .ref 0, .int x3, .int x2, .int x1, .ref 19, .int (-1)]) zd0_1127 rfl rfl rfl ?_
      refine z_e1 (pc1 := 1129) (L1 := [some (.ref 0), some (.ref 4), some (.ref 19), some (.int 0)]) (S1 := [.int 4, .int 0, .ref 0, .int x3, .int x2, .int x1, .ref 19, .int (-1)]) zd0_1128 rfl rfl rfl ?_
      refine z_e1 (pc1 := 1130) (L1 := [some (.ref 0), some (.ref 4), some (.ref 19), some (.int 0)]) (S1 := [.int 4, .ref 0, .int x3, .int x2, .int x1, .ref 19, .int (-1)]) zd0_1129 rfl rfl rfl ?_
      refine z_eial (y := x4) zd0_1130 h0 (by decide) g4 ?_
      refine z_ecV (vs := [.ref 19, .int x1, .int x2, .int x3, .int x4]) (r := [.int (-1)]) (L2 := [some (.ref 19), some (.int x1), some (.int x2), some (.int x3), some (.int x4), none, none, none]) zd0_1131 zcV0_110 (Or.inl rfl) rfl b19 (by decide) rfl rfl rfl (Nat.le_of_ble_eq_true rfl) zm259 (Nat.le_of_ble_eq_true rfl) rfl ?_
      refine z_e1 (pc1 := 1) (L1 := [some (.ref 19), some (.int x1), some (.int x2), some (.int x3), some (.int x4), none, none, none]) (S1 := [.ref 19]) zd259_0 rfl rfl rfl ?_
      refine z_e1 (pc1 := 2) (L1 := [some (.ref 19), some (.int x1), some (.int x2), some (.int x3), some (.int x4), none, none, none]) (S1 := [.int x1, .ref 19]) zd259_1 rfl rfl rfl ?_
      refine z_ecV (vs := [.ref 19, .int x1]) (r := []) (L2 := [some (.ref 19), some (.int x1)]) zd259_2 zcV259_272 (Or.inl rfl) rfl b19 (by decide) rfl rfl rfl (Nat.le_of_ble_eq_true rfl) zm237 (Nat.le_of_ble_eq_true rfl) rfl ?_
      refine z_e1 (pc1 := 1) (L1 := [some (.ref 19), some (.int x1)]) (S1 := [.int x1]) zd237_0 rfl rfl rfl ?_
      refine z_ez (t := 16) (t2 := 16) zd237_1 rfl (z_b_ltx1 (k := 0) (by decide) (show x1.toInt < 0 from by omega)) ?_
      refine z_e1 (pc1 := 17) (L1 := [some (.ref 19), some (.int x1)]) (S1 := [.int 0]) zd237_16 rfl rfl rfl ?_
      refine z_erz zd237_17 zr237 (by decide) ?_
      show z_ev _ 259 5 [some (.ref 19), some (.int x1), some (.int x2), some (.int x3), some (.int x4), none, none, none] [.int 0] _ _
      refine z_ez (t := 38) (t2 := 38) zd259_5 rfl rfl ?_
      refine z_e1 (pc1 := 39) (L1 := [some (.ref 19), some (.int x1), some (.int x2), some (.int x3), some (.int x4), none, none, none]) (S1 := [.int (-1)]) zd259_38 rfl rfl rfl ?_
      refine z_eri zd259_39 zr259 ?_
      show z_ev _ 0 1134 [some (.ref 0), some (.ref 4), some (.ref 19), some (.int 0)] [.int (-1), .int (-1)] _ _
      refine z_ej (t := 1775) (t2 := 1775) zd0_1134 rfl rfl ?_
      refine z_e1 (pc1 := 1778) (L1 := [some (.ref 0), some (.ref 4), some (.ref 19), some (.int 6)]) (S1 := []) zd0_1775 rfl rfl rfl ?_
      refine z_e1 (pc1 := 18) (L1 := [some (.ref 0), some (.ref 4), some (.ref 19), some (.int 6)]) (S1 := []) zd0_1778 rfl rfl rfl ?_
      refine z_e1 (pc1 := 19) (L1 := [some (.ref 0), some (.ref 4), some (.ref 19), some (.int 6)]) (S1 := [.int 6]) zd0_18 rfl rfl rfl ?_
      refine z_e1 (pc1 := 20) (L1 := [some (.ref 0), some (.ref 4), some (.ref 19), some (.int 6)]) (S1 := [.ref 0, .int 6]) zd0_19 rfl rfl rfl ?_
      refine z_ealn (y := 6) zd0_20 h0 rfl ?_
      refine z_e1 (pc1 := 23) (L1 := [some (.ref 0), some (.ref 4), some (.ref 19), some (.int 6)]) (S1 := [.int 6, .int 6, .int 6]) zd0_21 rfl rfl rfl ?_
      refine z_e1 (pc1 := 24) (L1 := [some (.ref 0), some (.ref 4), some (.ref 19), some (.int 6)]) (S1 := [.int 0, .int 6]) zd0_23 rfl rfl rfl ?_
      refine z_ej (t := 1781) (t2 := 1781) zd0_24 rfl rfl ?_
      refine z_e1 (pc1 := 1782) (L1 := [some (.ref 0), some (.ref 4), some (.ref 19), some (.int 6)]) (S1 := [.int 1]) zd0_1781 rfl rfl rfl ?_
      refine z_erz zd0_1782 zr0 (by decide) ?_
      exact z_K1i hN hS (by decide) (by decide)
    · refine z_ez (t := 12) (t2 := 4) zd37_1 rfl (z_b_ltx0 (k := 0) (by decide) e2) ?_
      refine z_e1 (pc1 := 5) (L1 := [some (.ref 4), some (.int x2)]) (S1 := [.int x2]) zd37_4 rfl rfl rfl ?_
      refine z_e1 (pc1 := 6) (L1 := [some (.ref 4), some (.int x2)]) (S1 := [.ref 4, .int x2]) zd37_5 rfl rfl rfl ?_
      refine z_egf (fs := [.ref 5, .ref 10, .ref 11, .int 0, .ref 12, .int 0, .ref 13, .ref 14, .ref 15, .ref 16, .ref 17, .ref 18, .null]) (v := .int 0) zd37_6 zf37_59 b4 (by decide) (by decide) rfl ?_
      refine z_ej (t := 16) (t2 := 12) zd37_9 rfl (z_b_ltx0 (k := 0) (by decide) (show ¬ x2.toInt < 0 from by omega)) ?_
      refine z_e1 (pc1 := 13) (L1 := [some (.ref 4), some (.int x2)]) (S1 := [.null]) zd37_12 rfl rfl rfl ?_
      refine z_e1 (pc1 := 25) (L1 := [some (.ref 4), some (.int x2)]) (S1 := [.null]) zd37_13 rfl rfl rfl ?_
      refine z_ern zd37_25 zr37 ?_
      show z_ev _ 114 12 [some (.ref 4), some (.int x1), some (.int x2), some (.int x3), some (.int x4), some (.null), none, none] [.null] _ _
      refine z_e1 (pc1 := 14) (L1 := [some (.ref 4), some (.int x1), some (.int x2), some (.int x3), some (.int x4), some (.null), some (.null), none]) (S1 := []) zd114_12 rfl rfl rfl ?_
      refine z_e1 (pc1 := 16) (L1 := [some (.ref 4), some (.int x1), some (.int x2), some (.int x3), some (.int x4), some (.null), some (.null), none]) (S1 := [.null]) zd114_14 rfl rfl rfl ?_
      refine z_e1 (pc1 := 34) (L1 := [some (.ref 4), some (.int x1), some (.int x2), some (.int x3), some (.int x4), some (.null), some (.null), none]) (S1 := []) zd114_16 rfl rfl rfl ?_
      refine z_e1 (pc1 := 35) (L1 := [some (.ref 4), some (.int x1), some (.int x2), some (.int x3), some (.int x4), some (.null), some (.null), none]) (S1 := [.int (-1)]) zd114_34 rfl rfl rfl ?_
      refine z_eri zd114_35 zr114 ?_
      show z_ev _ 0 1110 [some (.ref 0), some (.ref 4), some (.ref 19), some (.int 0)] [.int (-1)] _ _
      refine z_e1 (pc1 := 1111) (L1 := [some (.ref 0), some (.ref 4), some (.ref 19), some (.int 0)]) (S1 := [.ref 19, .int (-1)]) zd0_1110 rfl rfl rfl ?_
      refine z_e1 (pc1 := 1112) (L1 := [some (.ref 0), some (.ref 4), some (.ref 19), some (.int 0)]) (S1 := [.ref 0, .ref 19, .int (-1)]) zd0_1111 rfl rfl rfl ?_
      refine z_e1 (pc1 := 1113) (L1 := [some (.ref 0), some (.ref 4), some (.ref 19), some (.int 0)]) (S1 := [.int 0, .ref 0, .ref 19, .int (-1)]) zd0_1112 rfl rfl rfl ?_
      refine z_e1 (pc1 := 1114) (L1 := [some (.ref 0), some (.ref 4), some (.ref 19), some (.int 0)]) (S1 := [.int 1, .int 0, .ref 0, .ref 19, .int (-1)]) zd0_1113 rfl rfl rfl ?_
      refine z_e1 (pc1 := 1115) (L1 := [some (.ref 0), some (.ref 4), some (.ref 19), some (.int 0)]) (S1 := [.int 1, .ref 0, .ref 19, .int (-1)]) zd0_1114 rfl rfl rfl ?_
      refine z_eial (y := x1) zd0_1115 h0 (by decide) g1 ?_
      refine z_e1 (pc1 := 1117) (L1 := [some (.ref 0), some (.ref 4), some (.ref 19), some (.int 0)]) (S1 := [.ref 0, .int x1, .ref 19, .int (-1)]) zd0_1116 rfl rfl rfl ?_
      refine z_e1 (pc1 := 1118) (L1 := [some (.ref 0), some (.ref 4), some (.ref 19), some (.int 0)]) (S1 := [.int 0, .ref 0, .int x1, .ref 19, .int (-1)]) zd0_1117 rfl rfl rfl ?_
      refine z_e1 (pc1 := 1119) (L1 := [some (.ref 0), some (.ref 4), some (.ref 19), some (.int 0)]) (S1 := [.int 2, .int 0, .ref 0, .int x1, .ref 19, .int (-1)]) zd0_1118 rfl rfl rfl ?_
      refine z_e1 (pc1 := 1120) (L1 := [some (.ref 0), some (.ref 4), some (.ref 19), some (.int 0)]) (S1 := [.int 2, .ref 0, .int x1, .ref 19, .int (-1)]) zd0_1119 rfl rfl rfl ?_
      refine z_eial (y := x2) zd0_1120 h0 (by decide) g2 ?_
      refine z_e1 (pc1 := 1122) (L1 := [some (.ref 0), some (.ref 4), some (.ref 19), some (.int 0)]) (S1 := [.ref 0, .int x2, .int x1, .ref 19, .int (-1)]) zd0_1121 rfl rfl rfl ?_
      refine z_e1 (pc1 := 1123) (L1 := [some (.ref 0), some (.ref 4), some (.ref 19), some (.int 0)]) (S1 := [.int 0, .ref 0, .int x2, .int x1, .ref 19, .int (-1)]) zd0_1122 rfl rfl rfl ?_
      refine z_e1 (pc1 := 1124) (L1 := [some (.ref 0), some (.ref 4), some (.ref 19), some (.int 0)]) (S1 := [.int 3, .int 0, .ref 0, .int x2, .int x1, .ref 19, .int (-1)]) zd0_1123 rfl rfl rfl ?_
      refine z_e1 (pc1 := 1125) (L1 := [some (.ref 0), some (.ref 4), some (.ref 19), some (.int 0)]) (S1 := [.int 3, .ref 0, .int x2, .int x1, .ref 19, .int (-1)]) zd0_1124 rfl rfl rfl ?_
      refine z_eial (y := x3) zd0_1125 h0 (by decide) g3 ?_
      refine z_e1 (pc1 := 1127) (L1 := [some (.ref 0), some (.ref 4), some (.ref 19), some (.int 0)]) (S1 := [.ref 0, .int x3, .int x2, .int x1, .ref 19, .int (-1)]) zd0_1126 rfl rfl rfl ?_
      refine z_e1 (pc1 := 1128) (L1 := [some (.ref 0), some (.ref 4), some (.ref 19), some (.int 0)]) (S1 := [.int 0, .ref 0, .int x3, .int x2, .int x1, .ref 19, .int (-1)]) zd0_1127 rfl rfl rfl ?_
      refine z_e1 (pc1 := 1129) (L1 := [some (.ref 0), some (.ref 4), some (.ref 19), some (.int 0)]) (S1 := [.int 4, .int 0, .ref 0, .int x3, .int x2, .int x1, .ref 19, .int (-1)]) zd0_1128 rfl rfl rfl ?_
      refine z_e1 (pc1 := 1130) (L1 := [some (.ref 0), some (.ref 4), some (.ref 19), some (.int 0)]) (S1 := [.int 4, .ref 0, .int x3, .int x2, .int x1, .ref 19, .int (-1)]) zd0_1129 rfl rfl rfl ?_
      refine z_eial (y := x4) zd0_1130 h0 (by decide) g4 ?_
      refine z_ecV (vs := [.ref 19, .int x1, .int x2, .int x3, .int x4]) (r := [.int (-1)]) (L2 := [some (.ref 19), some (.int x1), some (.int x2), some (.int x3), some (.int x4), none, none, none]) zd0_1131 zcV0_110 (Or.inl rfl) rfl b19 (by decide) rfl rfl rfl (Nat.le_of_ble_eq_true rfl) zm259 (Nat.le_of_ble_eq_true rfl) rfl ?_
      refine z_e1 (pc1 := 1) (L1 := [some (.ref 19), some (.int x1), some (.int x2), some (.int x3), some (.int x4), none, none, none]) (S1 := [.ref 19]) zd259_0 rfl rfl rfl ?_
      refine z_e1 (pc1 := 2) (L1 := [some (.ref 19), some (.int x1), some (.int x2), some (.int x3), some (.int x4), none, none, none]) (S1 := [.int x1, .ref 19]) zd259_1 rfl rfl rfl ?_
      refine z_ecV (vs := [.ref 19, .int x1]) (r := []) (L2 := [some (.ref 19), some (.int x1)]) zd259_2 zcV259_272 (Or.inl rfl) rfl b19 (by decide) rfl rfl rfl (Nat.le_of_ble_eq_true rfl) zm237 (Nat.le_of_ble_eq_true rfl) rfl ?_
      refine z_e1 (pc1 := 1) (L1 := [some (.ref 19), some (.int x1)]) (S1 := [.int x1]) zd237_0 rfl rfl rfl ?_
      refine z_ez (t := 16) (t2 := 16) zd237_1 rfl (z_b_ltx1 (k := 0) (by decide) (show x1.toInt < 0 from by omega)) ?_
      refine z_e1 (pc1 := 17) (L1 := [some (.ref 19), some (.int x1)]) (S1 := [.int 0]) zd237_16 rfl rfl rfl ?_
      refine z_erz zd237_17 zr237 (by decide) ?_
      show z_ev _ 259 5 [some (.ref 19), some (.int x1), some (.int x2), some (.int x3), some (.int x4), none, none, none] [.int 0] _ _
      refine z_ez (t := 38) (t2 := 38) zd259_5 rfl rfl ?_
      refine z_e1 (pc1 := 39) (L1 := [some (.ref 19), some (.int x1), some (.int x2), some (.int x3), some (.int x4), none, none, none]) (S1 := [.int (-1)]) zd259_38 rfl rfl rfl ?_
      refine z_eri zd259_39 zr259 ?_
      show z_ev _ 0 1134 [some (.ref 0), some (.ref 4), some (.ref 19), some (.int 0)] [.int (-1), .int (-1)] _ _
      refine z_ej (t := 1775) (t2 := 1775) zd0_1134 rfl rfl ?_
      refine z_e1 (pc1 := 1778) (L1 := [some (.ref 0), some (.ref 4), some (.ref 19), some (.int 6)]) (S1 := []) zd0_1775 rfl rfl rfl ?_
      refine z_e1 (pc1 := 18) (L1 := [some (.ref 0), some (.ref 4), some (.ref 19), some (.int 6)]) (S1 := []) zd0_1778 rfl rfl rfl ?_
      refine z_e1 (pc1 := 19) (L1 := [some (.ref 0), some (.ref 4), some (.ref 19), some (.int 6)]) (S1 := [.int 6]) zd0_18 rfl rfl rfl ?_
      refine z_e1 (pc1 := 20) (L1 := [some (.ref 0), some (.ref 4), some (.ref 19), some (.int 6)]) (S1 := [.ref 0, .int 6]) zd0_19 rfl rfl rfl ?_
      refine z_ealn (y := 6) zd0_20 h0 rfl ?_
      refine z_e1 (pc1 := 23) (L1 := [some (.ref 0), some (.ref 4), some (.ref 19), some (.int 6)]) (S1 := [.int 6, .int 6, .int 6]) zd0_21 rfl rfl rfl ?_
      refine z_e1 (pc1 := 24) (L1 := [some (.ref 0), some (.ref 4), some (.ref 19), some (.int 6)]) (S1 := [.int 0, .int 6]) zd0_23 rfl rfl rfl ?_
      refine z_ej (t := 1781) (t2 := 1781) zd0_24 rfl rfl ?_
      refine z_e1 (pc1 := 1782) (L1 := [some (.ref 0), some (.ref 4), some (.ref 19), some (.int 6)]) (S1 := [.int 1]) zd0_1781 rfl rfl rfl ?_
      refine z_erz zd0_1782 zr0 (by decide) ?_
      exact z_K1i hN hS (by decide) (by decide)
  · refine z_ez (t := 12) (t2 := 4) zd84_1 rfl (z_b_ltx0 (k := 0) (by decide) e1) ?_
    refine z_e1 (pc1 := 5) (L1 := [some (.ref 4), some (.int x1)]) (S1 := [.int x1]) zd84_4 rfl rfl rfl ?_
    refine z_e1 (pc1 := 6) (L1 := [some (.ref 4), some (.int x1)]) (S1 := [.ref 4, .int x1]) zd84_5 rfl rfl rfl ?_
    refine z_egf (fs := [.ref 5, .ref 10, .ref 11, .int 0, .ref 12, .int 0, .ref 13, .ref 14, .ref 15, .ref 16, .ref 17, .ref 18, .null]) (v := .int 0) zd84_6 zf84_188 b4 (by decide) (by decide) rfl ?_
    refine z_ej (t := 16) (t2 := 12) zd84_9 rfl (z_b_ltx0 (k := 0) (by decide) (show ¬ x1.toInt < 0 from by omega)) ?_
    refine z_e1 (pc1 := 13) (L1 := [some (.ref 4), some (.int x1)]) (S1 := [.null]) zd84_12 rfl rfl rfl ?_
    refine z_e1 (pc1 := 22) (L1 := [some (.ref 4), some (.int x1)]) (S1 := [.null]) zd84_13 rfl rfl rfl ?_
    refine z_ern zd84_22 zr84 ?_
    show z_ev _ 114 5 [some (.ref 4), some (.int x1), some (.int x2), some (.int x3), some (.int x4), none, none, none] [.null] _ _
    refine z_e1 (pc1 := 7) (L1 := [some (.ref 4), some (.int x1), some (.int x2), some (.int x3), some (.int x4), some (.null), none, none]) (S1 := []) zd114_5 rfl rfl rfl ?_
    refine z_e1 (pc1 := 8) (L1 := [some (.ref 4), some (.int x1), some (.int x2), some (.int x3), some (.int x4), some (.null), none, none]) (S1 := [.ref 4]) zd114_7 rfl rfl rfl ?_
    refine z_e1 (pc1 := 9) (L1 := [some (.ref 4), some (.int x1), some (.int x2), some (.int x3), some (.int x4), some (.null), none, none]) (S1 := [.int x2, .ref 4]) zd114_8 rfl rfl rfl ?_
    refine z_ecV (vs := [.ref 4, .int x2]) (r := []) (L2 := [some (.ref 4), some (.int x2)]) zd114_9 zcV114_108 (Or.inl rfl) rfl b4 (by decide) rfl rfl rfl (Nat.le_of_ble_eq_true rfl) zm37 (Nat.le_of_ble_eq_true rfl) rfl ?_
    refine z_e1 (pc1 := 1) (L1 := [some (.ref 4), some (.int x2)]) (S1 := [.int x2]) zd37_0 rfl rfl rfl ?_
    by_cases e3 : x2.toInt < 0
    · refine z_ez (t := 12) (t2 := 12) zd37_1 rfl (z_b_ltx1 (k := 0) (by decide) e3) ?_
      refine z_e1 (pc1 := 13) (L1 := [some (.ref 4), some (.int x2)]) (S1 := [.null]) zd37_12 rfl rfl rfl ?_
      refine z_e1 (pc1 := 25) (L1 := [some (.ref 4), some (.int x2)]) (S1 := [.null]) zd37_13 rfl rfl rfl ?_
      refine z_ern zd37_25 zr37 ?_
      show z_ev _ 114 12 [some (.ref 4), some (.int x1), some (.int x2), some (.int x3), some (.int x4), some (.null), none, none] [.null] _ _
      refine z_e1 (pc1 := 14) (L1 := [some (.ref 4), some (.int x1), some (.int x2), some (.int x3), some (.int x4), some (.null), some (.null), none]) (S1 := []) zd114_12 rfl rfl rfl ?_
      refine z_e1 (pc1 := 16) (L1 := [some (.ref 4), some (.int x1), some (.int x2), some (.int x3), some (.int x4), some (.null), some (.null), none]) (S1 := [.null]) zd114_14 rfl rfl rfl ?_
      refine z_e1 (pc1 := 34) (L1 := [some (.ref 4), some (.int x1), some (.int x2), some (.int x3), some (.int x4), some (.null), some (.null), none]) (S1 := []) zd114_16 rfl rfl rfl ?_
      refine z_e1 (pc1 := 35) (L1 := [some (.ref 4), some (.int x1), some (.int x2), some (.int x3), some (.int x4), some (.null), some (.null), none]) (S1 := [.int (-1)]) zd114_34 rfl rfl rfl ?_
      refine z_eri zd114_35 zr114 ?_
      show z_ev _ 0 1110 [some (.ref 0), some (.ref 4), some (.ref 19), some (.int 0)] [.int (-1)] _ _
      refine z_e1 (pc1 := 1111) (L1 := [some (.ref 0), some (.ref 4), some (.ref 19), some (.int 0)]) (S1 := [.ref 19, .int (-1)]) zd0_1110 rfl rfl rfl ?_
      refine z_e1 (pc1 := 1112) (L1 := [some (.ref 0), some (.ref 4), some (.ref 19), some (.int 0)]) (S1 := [.ref 0, .ref 19, .int (-1)]) zd0_1111 rfl rfl rfl ?_
      refine z_e1 (pc1 := 1113) (L1 := [some (.ref 0), some (.ref 4), some (.ref 19), some (.int 0)]) (S1 := [.int 0, .ref 0, .ref 19, .int (-1)]) zd0_1112 rfl rfl rfl ?_
      refine z_e1 (pc1 := 1114) (L1 := [some (.ref 0), some (.ref 4), some (.ref 19), some (.int 0)]) (S1 := [.int 1, .int 0, .ref 0, .ref 19, .int (-1)]) zd0_1113 rfl rfl rfl ?_
      refine z_e1 (pc1 := 1115) (L1 := [some (.ref 0), some (.ref 4), some (.ref 19), some (.int 0)]) (S1 := [.int 1, .ref 0, .ref 19, .int (-1)]) zd0_1114 rfl rfl rfl ?_
      refine z_eial (y := x1) zd0_1115 h0 (by decide) g1 ?_
      refine z_e1 (pc1 := 1117) (L1 := [some (.ref 0), some (.ref 4), some (.ref 19), some (.int 0)]) (S1 := [.ref 0, .int x1, .ref 19, .int (-1)]) zd0_1116 rfl rfl rfl ?_
      refine z_e1 (pc1 := 1118) (L1 := [some (.ref 0), some (.ref 4), some (.ref 19), some (.int 0)]) (S1 := [.int 0, .ref 0, .int x1, .ref 19, .int (-1)]) zd0_1117 rfl rfl rfl ?_
      refine z_e1 (pc1 := 1119) (L1 := [some (.ref 0), some (.ref 4), some (.ref 19), some (.int 0)]) (S1 := [.int 2, .int 0, .ref 0, .int x1, .ref 19, .int (-1)]) zd0_1118 rfl rfl rfl ?_
      refine z_e1 (pc1 := 1120) (L1 := [some (.ref 0), some (.ref 4), some (.ref 19), some (.int 0)]) (S1 := [.int 2, .ref 0, .int x1, .ref 19, .int (-1)]) zd0_1119 rfl rfl rfl ?_
      refine z_eial (y := x2) zd0_1120 h0 (by decide) g2 ?_
      refine z_e1 (pc1 := 1122) (L1 := [some (.ref 0), some (.ref 4), some (.ref 19), some (.int 0)]) (S1 := [.ref 0, .int x2, .int x1, .ref 19, .int (-1)]) zd0_1121 rfl rfl rfl ?_
      refine z_e1 (pc1 := 1123) (L1 := [some (.ref 0), some (.ref 4), some (.ref 19), some (.int 0)]) (S1 := [.int 0, .ref 0, .int x2, .int x1, .ref 19, .int (-1)]) zd0_1122 rfl rfl rfl ?_
      refine z_e1 (pc1 := 1124) (L1 := [some (.ref 0), some (.ref 4), some (.ref 19), some (.int 0)]) (S1 := [.int 3, .int 0, .ref 0, .int x2, .int x1, .ref 19, .int (-1)]) zd0_1123 rfl rfl rfl ?_
      refine z_e1 (pc1 := 1125) (L1 := [some (.ref 0), some (.ref 4), some (.ref 19), some (.int 0)]) (S1 := [.int 3, .ref 0, .int x2, .int x1, .ref 19, .int (-1)]) zd0_1124 rfl rfl rfl ?_
      refine z_eial (y := x3) zd0_1125 h0 (by decide) g3 ?_
      refine z_e1 (pc1 := 1127) (L1 := [some (.ref 0), some (.ref 4), some (.ref 19), some (.int 0)]) (S1 := [.ref 0, .int x3, .int x2, .int x1, .ref 19, .int (-1)]) zd0_1126 rfl rfl rfl ?_
      refine z_e1 (pc1 := 1128) (L1 := [some (.ref 0), some (.ref 4), some (.ref 19), some (.int 0)]) (S1 := [.int 0, .ref 0, .int x3, .int x2, .int x1, .ref 19, .int (-1)]) zd0_1127 rfl rfl rfl ?_
      refine z_e1 (pc1 := 1129) (L1 := [some (.ref 0), some (.ref 4), some (.ref 19), some (.int 0)]) (S1 := [.int 4, .int 0, .ref 0, .int x3, .int x2, .int x1, .ref 19, .int (-1)]) zd0_1128 rfl rfl rfl ?_
      refine z_e1 (pc1 := 1130) (L1 := [some (.ref 0), some (.ref 4), some (.ref 19), some (.int 0)]) (S1 := [.int 4, .ref 0, .int x3, .int x2, .int x1, .ref 19, .int (-1)]) zd0_1129 rfl rfl rfl ?_
      refine z_eial (y := x4) zd0_1130 h0 (by decide) g4 ?_
      refine z_ecV (vs := [.ref 19, .int x1, .int x2, .int x3, .int x4]) (r := [.int (-1)]) (L2 := [some (.ref 19), some (.int x1), some (.int x2), some (.int x3), some (.int x4), none, none, none]) zd0_1131 zcV0_110 (Or.inl rfl) rfl b19 (by decide) rfl rfl rfl (Nat.le_of_ble_eq_true rfl) zm259 (Nat.le_of_ble_eq_true rfl) rfl ?_
      refine z_e1 (pc1 := 1) (L1 := [some (.ref 19), some (.int x1), some (.int x2), some (.int x3), some (.int x4), none, none, none]) (S1 := [.ref 19]) zd259_0 rfl rfl rfl ?_
      refine z_e1 (pc1 := 2) (L1 := [some (.ref 19), some (.int x1), some (.int x2), some (.int x3), some (.int x4), none, none, none]) (S1 := [.int x1, .ref 19]) zd259_1 rfl rfl rfl ?_
      refine z_ecV (vs := [.ref 19, .int x1]) (r := []) (L2 := [some (.ref 19), some (.int x1)]) zd259_2 zcV259_272 (Or.inl rfl) rfl b19 (by decide) rfl rfl rfl (Nat.le_of_ble_eq_true rfl) zm237 (Nat.le_of_ble_eq_true rfl) rfl ?_
      refine z_e1 (pc1 := 1) (L1 := [some (.ref 19), some (.int x1)]) (S1 := [.int x1]) zd237_0 rfl rfl rfl ?_
      refine z_ez (t := 16) (t2 := 4) zd237_1 rfl (z_b_ltx0 (k := 0) (by decide) (show ¬ x1.toInt < 0 from by omega)) ?_
      refine z_e1 (pc1 := 5) (L1 := [some (.ref 19), some (.int x1)]) (S1 := [.int x1]) zd237_4 rfl rfl rfl ?_
      refine z_e1 (pc1 := 6) (L1 := [some (.ref 19), some (.int x1)]) (S1 := [.ref 19, .int x1]) zd237_5 rfl rfl rfl ?_
      refine z_egf (fs := [.ref 20, .int 0, .ref 21, .ref 22, .ref 23, .ref 24, .ref 25, .ref 26, .ref 27, .ref 28, .ref 29, .ref 30, .ref 31, .int 0, .ref 32, .ref 33, .ref 34, .ref 35, .ref 36, .ref 37, .ref 38, .int 0, .int 0, .int 0, .int 0, .int 0, .int 0, .int 0, .int 0, .int 0, .int 0, .ref 39, .ref 40, .ref 41, .int 0, .int 0, .ref 42, .ref 43, .ref 44, .ref 45, .ref 46, .int 0, .ref 47, .int 0, .int 0, .int 0, .ref 48, .int 0, .int 0, .ref 49, .ref 50, .ref 51, .ref 52]) (v := .int 0) zd237_6 zf237_269 b19 (by decide) (by decide) rfl ?_
      refine z_ej (t := 16) (t2 := 16) zd237_9 rfl (z_b_gex0 (k := 0) (by decide) (show ¬ x1.toInt < 0 from by omega)) ?_
      refine z_e1 (pc1 := 17) (L1 := [some (.ref 19), some (.int x1)]) (S1 := [.int 0]) zd237_16 rfl rfl rfl ?_
      refine z_erz zd237_17 zr237 (by decide) ?_
      show z_ev _ 259 5 [some (.ref 19), some (.int x1), some (.int x2), some (.int x3), some (.int x4), none, none, none] [.int 0] _ _
      refine z_ez (t := 38) (t2 := 38) zd259_5 rfl rfl ?_
      refine z_e1 (pc1 := 39) (L1 := [some (.ref 19), some (.int x1), some (.int x2), some (.int x3), some (.int x4), none, none, none]) (S1 := [.int (-1)]) zd259_38 rfl rfl rfl ?_
      refine z_eri zd259_39 zr259 ?_
      show z_ev _ 0 1134 [some (.ref 0), some (.ref 4), some (.ref 19), some (.int 0)] [.int (-1), .int (-1)] _ _
      refine z_ej (t := 1775) (t2 := 1775) zd0_1134 rfl rfl ?_
      refine z_e1 (pc1 := 1778) (L1 := [some (.ref 0), some (.ref 4), some (.ref 19), some (.int 6)]) (S1 := []) zd0_1775 rfl rfl rfl ?_
      refine z_e1 (pc1 := 18) (L1 := [some (.ref 0), some (.ref 4), some (.ref 19), some (.int 6)]) (S1 := []) zd0_1778 rfl rfl rfl ?_
      refine z_e1 (pc1 := 19) (L1 := [some (.ref 0), some (.ref 4), some (.ref 19), some (.int 6)]) (S1 := [.int 6]) zd0_18 rfl rfl rfl ?_
      refine z_e1 (pc1 := 20) (L1 := [some (.ref 0), some (.ref 4), some (.ref 19), some (.int 6)]) (S1 := [.ref 0, .int 6]) zd0_19 rfl rfl rfl ?_
      refine z_ealn (y := 6) zd0_20 h0 rfl ?_
      refine z_e1 (pc1 := 23) (L1 := [some (.ref 0), some (.ref 4), some (.ref 19), some (.int 6)]) (S1 := [.int 6, .int 6, .int 6]) zd0_21 rfl rfl rfl ?_
      refine z_e1 (pc1 := 24) (L1 := [some (.ref 0), some (.ref 4), some (.ref 19), some (.int 6)]) (S1 := [.int 0, .int 6]) zd0_23 rfl rfl rfl ?_
      refine z_ej (t := 1781) (t2 := 1781) zd0_24 rfl rfl ?_
      refine z_e1 (pc1 := 1782) (L1 := [some (.ref 0), some (.ref 4), some (.ref 19), some (.int 6)]) (S1 := [.int 1]) zd0_1781 rfl rfl rfl ?_
      refine z_erz zd0_1782 zr0 (by decide) ?_
      exact z_K1i hN hS (by decide) (by decide)
    · refine z_ez (t := 12) (t2 := 4) zd37_1 rfl (z_b_ltx0 (k := 0) (by decide) e3) ?_
      refine z_e1 (pc1 := 5) (L1 := [some (.ref 4), some (.int x2)]) (S1 := [.int x2]) zd37_4 rfl rfl rfl ?_
      refine z_e1 (pc1 := 6) (L1 := [some (.ref 4), some (.int x2)]) (S1 := [.ref 4, .int x2]) zd37_5 rfl rfl rfl ?_
      refine z_egf (fs := [.ref 5, .ref 10, .ref 11, .int 0, .ref 12, .int 0, .ref 13, .ref 14, .ref 15, .ref 16, .ref 17, .ref 18, .null]) (v := .int 0) zd37_6 zf37_59 b4 (by decide) (by decide) rfl ?_
      refine z_ej (t := 16) (t2 := 12) zd37_9 rfl (z_b_ltx0 (k := 0) (by decide) (show ¬ x2.toInt < 0 from by omega)) ?_
      refine z_e1 (pc1 := 13) (L1 := [some (.ref 4), some (.int x2)]) (S1 := [.null]) zd37_12 rfl rfl rfl ?_
      refine z_e1 (pc1 := 25) (L1 := [some (.ref 4), some (.int x2)]) (S1 := [.null]) zd37_13 rfl rfl rfl ?_
      refine z_ern zd37_25 zr37 ?_
      show z_ev _ 114 12 [some (.ref 4), some (.int x1), some (.int x2), some (.int x3), some (.int x4), some (.null), none, none] [.null] _ _
      refine z_e1 (pc1 := 14) (L1 := [some (.ref 4), some (.int x1), some (.int x2), some (.int x3), some (.int x4), some (.null), some (.null), none]) (S1 := []) zd114_12 rfl rfl rfl ?_
      refine z_e1 (pc1 := 16) (L1 := [some (.ref 4), some (.int x1), some (.int x2), some (.int x3), some (.int x4), some (.null), some (.null), none]) (S1 := [.null]) zd114_14 rfl rfl rfl ?_
      refine z_e1 (pc1 := 34) (L1 := [some (.ref 4), some (.int x1), some (.int x2), some (.int x3), some (.int x4), some (.null), some (.null), none]) (S1 := []) zd114_16 rfl rfl rfl ?_
      refine z_e1 (pc1 := 35) (L1 := [some (.ref 4), some (.int x1), some (.int x2), some (.int x3), some (.int x4), some (.null), some (.null), none]) (S1 := [.int (-1)]) zd114_34 rfl rfl rfl ?_
      refine z_eri zd114_35 zr114 ?_
      show z_ev _ 0 1110 [some (.ref 0), some (.ref 4), some (.ref 19), some (.int 0)] [.int (-1)] _ _
      refine z_e1 (pc1 := 1111) (L1 := [some (.ref 0), some (.ref 4), some (.ref 19), some (.int 0)]) (S1 := [.ref 19, .int (-1)]) zd0_1110 rfl rfl rfl ?_
      refine z_e1 (pc1 := 1112) (L1 := [some (.ref 0), some (.ref 4), some (.ref 19), some (.int 0)]) (S1 := [.ref 0, .ref 19, .int (-1)]) zd0_1111 rfl rfl rfl ?_
      refine z_e1 (pc1 := 1113) (L1 := [some (.ref 0), some (.ref 4), some (.ref 19), some (.int 0)]) (S1 := [.int 0, .ref 0, .ref 19, .int (-1)]) zd0_1112 rfl rfl rfl ?_
      refine z_e1 (pc1 := 1114) (L1 := [some (.ref 0), some (.ref 4), some (.ref 19), some (.int 0)]) (S1 := [.int 1, .int 0, .ref 0, .ref 19, .int (-1)]) zd0_1113 rfl rfl rfl ?_
      refine z_e1 (pc1 := 1115) (L1 := [some (.ref 0), some (.ref 4), some (.ref 19), some (.int 0)]) (S1 := [.int 1, .ref 0, .ref 19, .int (-1)]) zd0_1114 rfl rfl rfl ?_
      refine z_eial (y := x1) zd0_1115 h0 (by decide) g1 ?_
      refine z_e1 (pc1 := 1117) (L1 := [some (.ref 0), some (.ref 4), some (.ref 19), some (.int 0)]) (S1 := [.ref 0, .int x1, .ref 19, .int (-1)]) zd0_1116 rfl rfl rfl ?_
      refine z_e1 (pc1 := 1118) (L1 := [some (.ref 0), some (.ref 4), some (.ref 19), some (.int 0)]) (S1 := [.int 0, .ref 0, .int x1, .ref 19, .int (-1)]) zd0_1117 rfl rfl rfl ?_
      refine z_e1 (pc1 := 1119) (L1 := [some (.ref 0), some (.ref 4), some (.ref 19), some (.int 0)]) (S1 := [.int 2, .int 0, .ref 0, .int x1, .ref 19, .int (-1)]) zd0_1118 rfl rfl rfl ?_
      refine z_e1 (pc1 := 1120) (L1 := [some (.ref 0), some (.ref 4), some (.ref 19), some (.int 0)]) (S1 := [.int 2, .ref 0, .int x1, .ref 19, .int (-1)]) zd0_1119 rfl rfl rfl ?_
      refine z_eial (y := x2) zd0_1120 h0 (by decide) g2 ?_
      refine z_e1 (pc1 := 1122) (L1 := [some (.ref 0), some (.ref 4), some (.ref 19), some (.int 0)]) (S1 := [.ref 0, .int x2, .int x1, .ref 19, .int (-1)]) zd0_1121 rfl rfl rfl ?_
      refine z_e1 (pc1 := 1123) (L1 := [some (.ref 0), some (.ref 4), some (.ref 19), some (.int 0)]) (S1 := [.int 0, .ref 0, .int x2, .int x1, .ref 19, .int (-1)]) zd0_1122 rfl rfl rfl ?_
      refine z_e1 (pc1 := 1124) (L1 := [some (.ref 0), some (.ref 4), some (.ref 19), some (.int 0)]) (S1 := [.int 3, .int 0, .ref 0, .int x2, .int x1, .ref 19, .int (-1)]) zd0_1123 rfl rfl rfl ?_
      refine z_e1 (pc1 := 1125) (L1 := [some (.ref 0), some (.ref 4), some (.ref 19), some (.int 0)]) (S1 := [.int 3, .ref 0, .int x2, .int x1, .ref 19, .int (-1)]) zd0_1124 rfl rfl rfl ?_
      refine z_eial (y := x3) zd0_1125 h0 (by decide) g3 ?_
      refine z_e1 (pc1 := 1127) (L1 := [some (.ref 0), some (.ref 4), some (.ref 19), some (.int 0)]) (S1 := [.ref 0, .int x3, .int x2, .int x1, .ref 19, .int (-1)]) zd0_1126 rfl rfl rfl ?_
      refine z_e1 (pc1 := 1128) (L1 := [some (.ref 0), some (.ref 4), some (.ref 19), some (.int 0)]) (S1 := [.int 0, .ref 0, .int x3, .int x2, .int x1, .ref 19, .int (-1)]) zd0_1127 rfl rfl rfl ?_
      refine z_e1 (pc1 := 1129) (L1 := [some (.ref 0), some (.ref 4), some (.ref 19), some (.int 0)]) (S1 := [.int 4, .int 0, .ref 0, .int x3, .int x2, .int x1, .ref 19, .int (-1)]) zd0_1128 rfl rfl rfl ?_
      refine z_e1 (pc1 := 1130) (L1 := [some (.ref 0), some (.ref 4), some (.ref 19), some (.int 0)]) (S1 := [.int 4, .ref 0, .int x3, .int x2, .int x1, .ref 19, .int (-1)]) zd0_1129 rfl rfl rfl ?_
      refine z_eial (y := x4) zd0_1130 h0 (by decide) g4 ?_
      refine z_ecV (vs := [.ref 19, .int x1, .int x2, .int x3, .int x4]) (r := [.int (-1)]) (L2 := [some (.ref 19), some (.int x1), some (.int x2), some (.int x3), some (.int x4), none, none, none]) zd0_1131 zcV0_110 (Or.inl rfl) rfl b19 (by decide) rfl rfl rfl (Nat.le_of_ble_eq_true rfl) zm259 (Nat.le_of_ble_eq_true rfl) rfl ?_
      refine z_e1 (pc1 := 1) (L1 := [some (.ref 19), some (.int x1), some (.int x2), some (.int x3), some (.int x4), none, none, none]) (S1 := [.ref 19]) zd259_0 rfl rfl rfl ?_
      refine z_e1 (pc1 := 2) (L1 := [some (.ref 19), some (.int x1), some (.int x2), some (.int x3), some (.int x4), none, none, none]) (S1 := [.int x1, .ref 19]) zd259_1 rfl rfl rfl ?_
      refine z_ecV (vs := [.ref 19, .int x1]) (r := []) (L2 := [some (.ref 19), some (.int x1)]) zd259_2 zcV259_272 (Or.inl rfl) rfl b19 (by decide) rfl rfl rfl (Nat.le_of_ble_eq_true rfl) zm237 (Nat.le_of_ble_eq_true rfl) rfl ?_
      refine z_e1 (pc1 := 1) (L1 := [some (.ref 19), some (.int x1)]) (S1 := [.int x1]) zd237_0 rfl rfl rfl ?_
      refine z_ez (t := 16) (t2 := 4) zd237_1 rfl (z_b_ltx0 (k := 0) (by decide) (show ¬ x1.toInt < 0 from by omega)) ?_
      refine z_e1 (pc1 := 5) (L1 := [some (.ref 19), some (.int x1)]) (S1 := [.int x1]) zd237_4 rfl rfl rfl ?_
      refine z_e1 (pc1 := 6) (L1 := [some (.ref 19), some (.int x1)]) (S1 := [.ref 19, .int x1]) zd237_5 rfl rfl rfl ?_
      refine z_egf (fs := [.ref 20, .int 0, .ref 21, .ref 22, .ref 23, .ref 24, .ref 25, .ref 26, .ref 27, .ref 28, .ref 29, .ref 30, .ref 31, .int 0, .ref 32, .ref 33, .ref 34, .ref 35, .ref 36, .ref 37, .ref 38, .int 0, .int 0, .int 0, .int 0, .int 0, .int 0, .int 0, .int 0, .int 0, .int 0, .ref 39, .ref 40, .ref 41, .int 0, .int 0, .ref 42, .ref 43, .ref 44, .ref 45, .ref 46, .int 0, .ref 47, .int 0, .int 0, .int 0, .ref 48, .int 0, .int 0, .ref 49, .ref 50, .ref 51, .ref 52]) (v := .int 0) zd237_6 zf237_269 b19 (by decide) (by decide) rfl ?_
      refine z_ej (t := 16) (t2 := 16) zd237_9 rfl (z_b_gex0 (k := 0) (by decide) (show ¬ x1.toInt < 0 from by omega)) ?_
      refine z_e1 (pc1 := 17) (L1 := [some (.ref 19), some (.int x1)]) (S1 := [.int 0]) zd237_16 rfl rfl rfl ?_
      refine z_erz zd237_17 zr237 (by decide) ?_
      show z_ev _ 259 5 [some (.ref 19), some (.int x1), some (.int x2), some (.int x3), some (.int x4), none, none, none] [.int 0] _ _
      refine z_ez (t := 38) (t2 := 38) zd259_5 rfl rfl ?_
      refine z_e1 (pc1 := 39) (L1 := [some (.ref 19), some (.int x1), some (.int x2), some (.int x3), some (.int x4), none, none, none]) (S1 := [.int (-1)]) zd259_38 rfl rfl rfl ?_
      refine z_eri zd259_39 zr259 ?_
      show z_ev _ 0 1134 [some (.ref 0), some (.ref 4), some (.ref 19), some (.int 0)] [.int (-1), .int (-1)] _ _
      refine z_ej (t := 1775) (t2 := 1775) zd0_1134 rfl rfl ?_
      refine z_e1 (pc1 := 1778) (L1 := [some (.ref 0), some (.ref 4), some (.ref 19), some (.int 6)]) (S1 := []) zd0_1775 rfl rfl rfl ?_
      refine z_e1 (pc1 := 18) (L1 := [some (.ref 0), some (.ref 4), some (.ref 19), some (.int 6)]) (S1 := []) zd0_1778 rfl rfl rfl ?_
      refine z_e1 (pc1 := 19) (L1 := [some (.ref 0), some (.ref 4), some (.ref 19), some (.int 6)]) (S1 := [.int 6]) zd0_18 rfl rfl rfl ?_
      refine z_e1 (pc1 := 20) (L1 := [some (.ref 0), some (.ref 4), some (.ref 19), some (.int 6)]) (S1 := [.ref 0, .int 6]) zd0_19 rfl rfl rfl ?_
      refine z_ealn (y := 6) zd0_20 h0 rfl ?_
      refine z_e1 (pc1 := 23) (L1 := [some (.ref 0), some (.ref 4), some (.ref 19), some (.int 6)]) (S1 := [.int 6, .int 6, .int 6]) zd0_21 rfl rfl rfl ?_
      refine z_e1 (pc1 := 24) (L1 := [some (.ref 0), some (.ref 4), some (.ref 19), some (.int 6)]) (S1 := [.int 0, .int 6]) zd0_23 rfl rfl rfl ?_
      refine z_ej (t := 1781) (t2 := 1781) zd0_24 rfl rfl ?_
      refine z_e1 (pc1 := 1782) (L1 := [some (.ref 0), some (.ref 4), some (.ref 19), some (.int 6)]) (S1 := [.int 1]) zd0_1781 rfl rfl rfl ?_
      refine z_erz zd0_1782 zr0 (by decide) ?_
      exact z_K1i hN hS (by decide) (by decide)
theorem z_C23 {M : zH} {xs : Nat → Int32} {x1 x2 x3 x4 x5 : Int32} (h0 : M[0]? = some (.inl (0, 6, .inl xs))) (hN : M.length = 53) (hS : z_sz M ≤ 50000) (hB : z_fr M 4 53) (g1 : xs 1 = x1) (g2 : xs 2 = x2) (g3 : xs 3 = x3) (g4 : xs 4 = x4) (g5 : xs 5 = x5) : z_ev 2047 0 1139 [some (.ref 0), some (.ref 4), some (.ref 19), some (.int 0)] [] M z_K1 := by
  have b4 := z_qO (hB 4 (by decide) (by decide))
  have b19 := z_qO (hB 19 (by decide) (by decide))
  refine z_e1 (pc1 := 1140) (L1 := [some (.ref 0), some (.ref 4), some (.ref 19), some (.int 0)]) (S1 := [.ref 4]) zd0_1139 rfl rfl rfl ?_
  refine z_e1 (pc1 := 1141) (L1 := [some (.ref 0), some (.ref 4), some (.ref 19), some (.int 0)]) (S1 := [.ref 0, .ref 4]) zd0_1140 rfl rfl rfl ?_
  refine z_e1 (pc1 := 1142) (L1 := [some (.ref 0), some (.ref 4), some (.ref 19), some (.int 0)]) (S1 := [.int 0, .ref 0, .ref 4]) zd0_1141 rfl rfl rfl ?_
  refine z_e1 (pc1 := 1143) (L1 := [some (.ref 0), some (.ref 4), some (.ref 19), some (.int 0)]) (S1 := [.int 1, .int 0, .ref 0, .ref 4]) zd0_1142 rfl rfl rfl ?_
  refine z_e1 (pc1 := 1144) (L1 := [some (.ref 0), some (.ref 4), some (.ref 19), some (.int 0)]) (S1 := [.int 1, .ref 0, .ref 4]) zd0_1143 rfl rfl rfl ?_
  refine z_eial (y := x1) zd0_1144 h0 (by decide) g1 ?_
  refine z_e1 (pc1 := 1146) (L1 := [some (.ref 0), some (.ref 4), some (.ref 19), some (.int 0)]) (S1 := [.ref 0, .int x1, .ref 4]) zd0_1145 rfl rfl rfl ?_
  refine z_e1 (pc1 := 1147) (L1 := [some (.ref 0), some (.ref 4), some (.ref 19), some (.int 0)]) (S1 := [.int 0, .ref 0, .int x1, .ref 4]) zd0_1146 rfl rfl rfl ?_
  refine z_e1 (pc1 := 1148) (L1 := [some (.ref 0), some (.ref 4), some (.ref 19), some (.int 0)]) (S1 := [.int 2, .int 0, .ref 0, .int x1, .ref 4]) zd0_1147 rfl rfl rfl ?_
  refine z_e1 (pc1 := 1149) (L1 := [some (.ref 0), some (.ref 4), some (.ref 19), some (.int 0)]) (S1 := [.int 2, .ref 0, .int x1, .ref 4]) zd0_1148 rfl rfl rfl ?_
  refine z_eial (y := x2) zd0_1149 h0 (by decide) g2 ?_
  refine z_e1 (pc1 := 1151) (L1 := [some (.ref 0), some (.ref 4), some (.ref 19), some (.int 0)]) (S1 := [.ref 0, .int x2, .int x1, .ref 4]) zd0_1150 rfl rfl rfl ?_
  refine z_e1 (pc1 := 1152) (L1 := [some (.ref 0), some (.ref 4), some (.ref 19), some (.int 0)]) (S1 := [.int 0, .ref 0, .int x2, .int x1, .ref 4]) zd0_1151 rfl rfl rfl ?_
  refine z_e1 (pc1 := 1153) (L1 := [some (.ref 0), some (.ref 4), some (.ref 19), some (.int 0)]) (S1 := [.int 3, .int 0, .ref 0, .int x2, .int x1, .ref 4]) zd0_1152 rfl rfl rfl ?_
  refine z_e1 (pc1 := 1154) (L1 := [some (.ref 0), some (.ref 4), some (.ref 19), some (.int 0)]) (S1 := [.int 3, .ref 0, .int x2, .int x1, .ref 4]) zd0_1153 rfl rfl rfl ?_
  refine z_eial (y := x3) zd0_1154 h0 (by decide) g3 ?_
  refine z_ecV (vs := [.ref 4, .int x1, .int x2, .int x3]) (r := []) (L2 := [some (.ref 4), some (.int x1), some (.int x2), some (.int x3), none, none]) zd0_1155 zcV0_111 (Or.inl rfl) rfl b4 (by decide) rfl rfl rfl (Nat.le_of_ble_eq_true rfl) zm116 (Nat.le_of_ble_eq_true rfl) rfl ?_
  refine z_e1 (pc1 := 1) (L1 := [some (.ref 4), some (.int x1), some (.int x2), some (.int x3), none, none]) (S1 := [.ref 4]) zd116_0 rfl rfl rfl ?_
  refine z_e1 (pc1 := 2) (L1 := [some (.ref 4), some (.int x1), some (.int x2), some (.int x3), none, none]) (S1 := [.int x1, .ref 4]) zd116_1 rfl rfl rfl ?_
  refine z_ecV (vs := [.ref 4, .int x1]) (r := []) (L2 := [some (.ref 4), some (.int x1)]) zd116_2 zcV116_221 (Or.inl rfl) rfl b4 (by decide) rfl rfl rfl (Nat.le_of_ble_eq_true rfl) zm84 (Nat.le_of_ble_eq_true rfl) rfl ?_
  refine z_e1 (pc1 := 1) (L1 := [some (.ref 4), some (.int x1)]) (S1 := [.int x1]) zd84_0 rfl rfl rfl ?_
  by_cases e1 : x1.toInt < 0
  · refine z_ez (t := 12) (t2 := 12) zd84_1 rfl (z_b_ltx1 (k := 0) (by decide) e1) ?_
    refine z_e1 (pc1 := 13) (L1 := [some (.ref 4), some (.int x1)]) (S1 := [.null]) zd84_12 rfl rfl rfl ?_
    refine z_e1 (pc1 := 22) (L1 := [some (.ref 4), some (.int x1)]) (S1 := [.null]) zd84_13 rfl rfl rfl ?_
    refine z_ern zd84_22 zr84 ?_
    show z_ev _ 116 5 [some (.ref 4), some (.int x1), some (.int x2), some (.int x3), none, none] [.null] _ _
    refine z_e1 (pc1 := 7) (L1 := [some (.ref 4), some (.int x1), some (.int x2), some (.int x3), some (.null), none]) (S1 := []) zd116_5 rfl rfl rfl ?_
    refine z_e1 (pc1 := 8) (L1 := [some (.ref 4), some (.int x1), some (.int x2), some (.int x3), some (.null), none]) (S1 := [.ref 4]) zd116_7 rfl rfl rfl ?_
    refine z_e1 (pc1 := 9) (L1 := [some (.ref 4), some (.int x1), some (.int x2), some (.int x3), some (.null), none]) (S1 := [.int x2, .ref 4]) zd116_8 rfl rfl rfl ?_
    refine z_ecV (vs := [.ref 4, .int x2]) (r := []) (L2 := [some (.ref 4), some (.int x2)]) zd116_9 zcV116_85 (Or.inl rfl) rfl b4 (by decide) rfl rfl rfl (Nat.le_of_ble_eq_true rfl) zm35 (Nat.le_of_ble_eq_true rfl) rfl ?_
    refine z_e1 (pc1 := 1) (L1 := [some (.ref 4), some (.int x2)]) (S1 := [.int x2]) zd35_0 rfl rfl rfl ?_
    by_cases e2 : x2.toInt < 0
    · refine z_ez (t := 12) (t2 := 12) zd35_1 rfl (z_b_ltx1 (k := 0) (by decide) e2) ?_
      refine z_e1 (pc1 := 13) (L1 := [some (.ref 4), some (.int x2)]) (S1 := [.null]) zd35_12 rfl rfl rfl ?_
      refine z_e1 (pc1 := 22) (L1 := [some (.ref 4), some (.int x2)]) (S1 := [.null]) zd35_13 rfl rfl rfl ?_
      refine z_ern zd35_22 zr35 ?_
      show z_ev _ 116 12 [some (.ref 4), some (.int x1), some (.int x2), some (.int x3), some (.null), none] [.null] _ _
      refine z_e1 (pc1 := 14) (L1 := [some (.ref 4), some (.int x1), some (.int x2), some (.int x3), some (.null), some (.null)]) (S1 := []) zd116_12 rfl rfl rfl ?_
      refine z_e1 (pc1 := 16) (L1 := [some (.ref 4), some (.int x1), some (.int x2), some (.int x3), some (.null), some (.null)]) (S1 := [.null]) zd116_14 rfl rfl rfl ?_
      refine z_e1 (pc1 := 42) (L1 := [some (.ref 4), some (.int x1), some (.int x2), some (.int x3), some (.null), some (.null)]) (S1 := []) zd116_16 rfl rfl rfl ?_
      refine z_e1 (pc1 := 43) (L1 := [some (.ref 4), some (.int x1), some (.int x2), some (.int x3), some (.null), some (.null)]) (S1 := [.int (-1)]) zd116_42 rfl rfl rfl ?_
      refine z_eri zd116_43 zr116 ?_
      show z_ev _ 0 1158 [some (.ref 0), some (.ref 4), some (.ref 19), some (.int 0)] [.int (-1)] _ _
      refine z_e1 (pc1 := 1159) (L1 := [some (.ref 0), some (.ref 4), some (.ref 19), some (.int 0)]) (S1 := [.ref 19, .int (-1)]) zd0_1158 rfl rfl rfl ?_
      refine z_e1 (pc1 := 1160) (L1 := [some (.ref 0), some (.ref 4), some (.ref 19), some (.int 0)]) (S1 := [.ref 0, .ref 19, .int (-1)]) zd0_1159 rfl rfl rfl ?_
      refine z_e1 (pc1 := 1161) (L1 := [some (.ref 0), some (.ref 4), some (.ref 19), some (.int 0)]) (S1 := [.int 0, .ref 0, .ref 19, .int (-1)]) zd0_1160 rfl rfl rfl ?_
      refine z_e1 (pc1 := 1162) (L1 := [some (.ref 0), some (.ref 4), some (.ref 19), some (.int 0)]) (S1 := [.int 1, .int 0, .ref 0, .ref 19, .int (-1)]) zd0_1161 rfl rfl rfl ?_
      refine z_e1 (pc1 := 1163) (L1 := [some (.ref 0), some (.ref 4), some (.ref 19), some (.int 0)]) (S1 := [.int 1, .ref 0, .ref 19, .int (-1)]) zd0_1162 rfl rfl rfl ?_
      refine z_eial (y := x1) zd0_1163 h0 (by decide) g1 ?_
      refine z_e1 (pc1 := 1165) (L1 := [some (.ref 0), some (.ref 4), some (.ref 19), some (.int 0)]) (S1 := [.ref 0, .int x1, .ref 19, .int (-1)]) zd0_1164 rfl rfl rfl ?_
      refine z_e1 (pc1 := 1166) (L1 := [some (.ref 0), some (.ref 4), some (.ref 19), some (.int 0)]) (S1 := [.int 0, .ref 0, .int x1, .ref 19, .int (-1)]) zd0_1165 rfl rfl rfl ?_
      refine z_e1 (pc1 := 1167) (L1 := [some (.ref 0), some (.ref 4), some (.ref 19), some (.int 0)]) (S1 := [.int 2, .int 0, .ref 0, .int x1, .ref 19, .int (-1)]) zd0_1166 rfl rfl rfl ?_
      refine z_e1 (pc1 := 1168) (L1 := [some (.ref 0), some (.ref 4), some (.ref 19), some (.int 0)]) (S1 := [.int 2, .ref 0, .int x1, .ref 19, .int (-1)]) zd0_1167 rfl rfl rfl ?_
      refine z_eial (y := x2) zd0_1168 h0 (by decide) g2 ?_
      refine z_e1 (pc1 := 1170) (L1 := [some (.ref 0), some (.ref 4), some (.ref 19), some (.int 0)]) (S1 := [.ref 0, .int x2, .int x1, .ref 19, .int (-1)]) zd0_1169 rfl rfl rfl ?_
      refine z_e1 (pc1 := 1171) (L1 := [some (.ref 0), some (.ref 4), some (.ref 19), some (.int 0)]) (S1 := [.int 0, .ref 0, .int x2, .int x1, .ref 19, .int (-1)]) zd0_1170 rfl rfl rfl ?_
      refine z_e1 (pc1 := 1172) (L1 := [some (.ref 0), some (.ref 4), some (.ref 19), some (.int 0)]) (S1 := [.int 3, .int 0, .ref 0, .int x2, .int x1, .ref 19, .int (-1)]) zd0_1171 rfl rfl rfl ?_
      refine z_e1 (pc1 := 1173) (L1 := [some (.ref 0), some (.ref 4), some (.ref 19), some (.int 0)]) (S1 := [.int 3, .ref 0, .int x2, .int x1, .ref 19, .int (-1)]) zd0_1172 rfl rfl rfl ?_
      refine z_eial (y := x3) zd0_1173 h0 (by decide) g3 ?_
      refine z_ecV (vs := [.ref 19, .int x1, .int x2, .int x3]) (r := [.int (-1)]) (L2 := [some (.ref 19), some (.int x1), some (.int x2), some (.int x3)]) zd0_1174 zcV0_114 (Or.inl rfl) rfl b19 (by decide) rfl rfl rfl (Nat.le_of_ble_eq_true rfl) zm260 (Nat.le_of_ble_eq_true rfl) rfl ?_
      refine z_e1 (pc1 := 1) (L1 := [some (.ref 19), some (.int x1), some (.int x2), some (.int x3)]) (S1 := [.ref 19]) zd260_0 rfl rfl rfl ?_
      refine z_e1 (pc1 := 2) (L1 := [some (.ref 19), some (.int x1), some (.int x2), some (.int x3)]) (S1 := [.int x1, .ref 19]) zd260_1 rfl rfl rfl ?_
      refine z_ecV (vs := [.ref 19, .int x1]) (r := []) (L2 := [some (.ref 19), some (.int x1)]) zd260_2 zcV260_272 (Or.inl rfl) rfl b19 (by decide) rfl rfl rfl (Nat.le_of_ble_eq_true rfl) zm237 (Nat.le_of_ble_eq_true rfl) rfl ?_
      refine z_e1 (pc1 := 1) (L1 := [some (.ref 19), some (.int x1)]) (S1 := [.int x1]) zd237_0 rfl rfl rfl ?_
      refine z_ez (t := 16) (t2 := 16) zd237_1 rfl (z_b_ltx1 (k := 0) (by decide) (show x1.toInt < 0 from by omega)) ?_
      refine z_e1 (pc1 := 17) (L1 := [some (.ref 19), some (.int x1)]) (S1 := [.int 0]) zd237_16 rfl rfl rfl ?_
      refine z_erz zd237_17 zr237 (by decide) ?_
      show z_ev _ 260 5 [some (.ref 19), some (.int x1), some (.int x2), some (.int x3)] [.int 0] _ _
      refine z_ez (t := 17) (t2 := 17) zd260_5 rfl rfl ?_
      refine z_e1 (pc1 := 18) (L1 := [some (.ref 19), some (.int x1), some (.int x2), some (.int x3)]) (S1 := [.int (-1)]) zd260_17 rfl rfl rfl ?_
      refine z_eri zd260_18 zr260 ?_
      show z_ev _ 0 1177 [some (.ref 0), some (.ref 4), some (.ref 19), some (.int 0)] [.int (-1), .int (-1)] _ _
      refine z_ej (t := 1775) (t2 := 1775) zd0_1177 rfl rfl ?_
      refine z_e1 (pc1 := 1778) (L1 := [some (.ref 0), some (.ref 4), some (.ref 19), some (.int 6)]) (S1 := []) zd0_1775 rfl rfl rfl ?_
      refine z_e1 (pc1 := 18) (L1 := [some (.ref 0), some (.ref 4), some (.ref 19), some (.int 6)]) (S1 := []) zd0_1778 rfl rfl rfl ?_
      refine z_e1 (pc1 := 19) (L1 := [some (.ref 0), some (.ref 4), some (.ref 19), some (.int 6)]) (S1 := [.int 6]) zd0_18 rfl rfl rfl ?_
      refine z_e1 (pc1 := 20) (L1 := [some (.ref 0), some (.ref 4), some (.ref 19), some (.int 6)]) (S1 := [.ref 0, .int 6]) zd0_19 rfl rfl rfl ?_
      refine z_ealn (y := 6) zd0_20 h0 rfl ?_
      refine z_e1 (pc1 := 23) (L1 := [some (.ref 0), some (.ref 4), some (.ref 19), some (.int 6)]) (S1 := [.int 6, .int 6, .int 6]) zd0_21 rfl rfl rfl ?_
      refine z_e1 (pc1 := 24) (L1 := [some (.ref 0), some (.ref 4), some (.ref 19), some (.int 6)]) (S1 := [.int 0, .int 6]) zd0_23 rfl rfl rfl ?_
      refine z_ej (t := 1781) (t2 := 1781) zd0_24 rfl rfl ?_
      refine z_e1 (pc1 := 1782) (L1 := [some (.ref 0), some (.ref 4), some (.ref 19), some (.int 6)]) (S1 := [.int 1]) zd0_1781 rfl rfl rfl ?_
      refine z_erz zd0_1782 zr0 (by decide) ?_
      exact z_K1i hN hS (by decide) (by decide)
    · refine z_ez (t := 12) (t2 := 4) zd35_1 rfl (z_b_ltx0 (k := 0) (by decide) e2) ?_
      refine z_e1 (pc1 := 5) (L1 := [some (.ref 4), some (.int x2)]) (S1 := [.int x2]) zd35_4 rfl rfl rfl ?_
      refine z_e1 (pc1 := 6) (L1 := [some (.ref 4), some (.int x2)]) (S1 := [.ref 4, .int x2]) zd35_5 rfl rfl rfl ?_
      refine z_egf (fs := [.ref 5, .ref 10, .ref 11, .int 0, .ref 12, .int 0, .ref 13, .ref 14, .ref 15, .ref 16, .ref 17, .ref 18, .null]) (v := .int 0) zd35_6 zf35_59 b4 (by decide) (by decide) rfl ?_
      refine z_ej (t := 16) (t2 := 12) zd35_9 rfl (z_b_ltx0 (k := 0) (by decide) (show ¬ x2.toInt < 0 from by omega)) ?_
      refine z_e1 (pc1 := 13) (L1 := [some (.ref 4), some (.int x2)]) (S1 := [.null]) zd35_12 rfl rfl rfl ?_
      refine z_e1 (pc1 := 22) (L1 := [some (.ref 4), some (.int x2)]) (S1 := [.null]) zd35_13 rfl rfl rfl ?_
      refine z_ern zd35_22 zr35 ?_
      show z_ev _ 116 12 [some (.ref 4), some (.int x1), some (.int x2), some (.int x3), some (.null), none] [.null] _ _
      refine z_e1 (pc1 := 14) (L1 := [some (.ref 4), some (.int x1), some (.int x2), some (.int x3), some (.null), some (.null)]) (S1 := []) zd116_12 rfl rfl rfl ?_
      refine z_e1 (pc1 := 16) (L1 := [some (.ref 4), some (.int x1), some (.int x2), some (.int x3), some (.null), some (.null)]) (S1 := [.null]) zd116_14 rfl rfl rfl ?_
      refine z_e1 (pc1 := 42) (L1 := [some (.ref 4), some (.int x1), some (.int x2), some (.int x3), some (.null), some (.null)]) (S1 := []) zd116_16 rfl rfl rfl ?_
      refine z_e1 (pc1 := 43) (L1 := [some (.ref 4), some (.int x1), some (.int x2), some (.int x3), some (.null), some (.null)]) (S1 := [.int (-1)]) zd116_42 rfl rfl rfl ?_
      refine z_eri zd116_43 zr116 ?_
      show z_ev _ 0 1158 [some (.ref 0), some (.ref 4), some (.ref 19), some (.int 0)] [.int (-1)] _ _
      refine z_e1 (pc1 := 1159) (L1 := [some (.ref 0), some (.ref 4), some (.ref 19), some (.int 0)]) (S1 := [.ref 19, .int (-1)]) zd0_1158 rfl rfl rfl ?_
      refine z_e1 (pc1 := 1160) (L1 := [some (.ref 0), some (.ref 4), some (.ref 19), some (.int 0)]) (S1 := [.ref 0, .ref 19, .int (-1)]) zd0_1159 rfl rfl rfl ?_
      refine z_e1 (pc1 := 1161) (L1 := [some (.ref 0), some (.ref 4), some (.ref 19), some (.int 0)]) (S1 := [.int 0, .ref 0, .ref 19, .int (-1)]) zd0_1160 rfl rfl rfl ?_
      refine z_e1 (pc1 := 1162) (L1 := [some (.ref 0), some (.ref 4), some (.ref 19), some (.int 0)]) (S1 := [.int 1, .int 0, .ref 0, .ref 19, .int (-1)]) zd0_1161 rfl rfl rfl ?_
      refine z_e1 (pc1 := 1163) (L1 := [some (.ref 0), some (.ref 4), some (.ref 19), some (.int 0)]) (S1 := [.int 1, .ref 0, .ref 19, .int (-1)]) zd0_1162 rfl rfl rfl ?_
      refine z_eial (y := x1) zd0_1163 h0 (by decide) g1 ?_
      refine z_e1 (pc1 := 1165) (L1 := [some (.ref 0), some (.ref 4), some (.ref 19), some (.int 0)]) (S1 := [.ref 0, .int x1, .ref 19, .int (-1)]) zd0_1164 rfl rfl rfl ?_
      refine z_e1 (pc1 := 1166) (L1 := [some (.ref 0), some (.ref 4), some (.ref 19), some (.int 0)]) (S1 := [.int 0, .ref 0, .int x1, .ref 19, .int (-1)]) zd0_1165 rfl rfl rfl ?_
      refine z_e1 (pc1 := 1167) (L1 := [some (.ref 0), some (.ref 4), some (.ref 19), some (.int 0)]) (S1 := [.int 2, .int 0, .ref 0, .int x1, .ref 19, .int (-1)]) zd0_1166 rfl rfl rfl ?_
      refine z_e1 (pc1 := 1168) (L1 := [some (.ref 0), some (.ref 4), some (.ref 19), some (.int 0)]) (S1 := [.int 2, .ref 0, .int x1, .ref 19, .int (-1)]) zd0_1167 rfl rfl rfl ?_
      refine z_eial (y := x2) zd0_1168 h0 (by decide) g2 ?_
      refine z_e1 (pc1 := 1170) (L1 := [some (.ref 0), some (.ref 4), some (.ref 19), some (.int 0)]) (S1 := [.ref 0, .int x2, .int x1, .ref 19, .int (-1)]) zd0_1169 rfl rfl rfl ?_
      refine z_e1 (pc1 := 1171) (L1 := [some (.ref 0), some (.ref 4), some (.ref 19), some (.int 0)]) (S1 := [.int 0, .ref 0, .int x2, .int x1, .ref 19, .int (-1)]) zd0_1170 rfl rfl rfl ?_
      refine z_e1 (pc1 := 1172) (L1 := [some (.ref 0), some (.ref 4), some (.ref 19), some (.int 0)]) (S1 := [.int 3, .int 0, .ref 0, .int x2, .int x1, .ref 19, .int (-1)]) zd0_1171 rfl rfl rfl ?_
      refine z_e1 (pc1 := 1173) (L1 := [some (.ref 0), some (.ref 4), some (.ref 19), some (.int 0)]) (S1 := [.int 3, .ref 0, .int x2, .int x1, .ref 19, .int (-1)]) zd0_1172 rfl rfl rfl ?_
      refine z_eial (y := x3) zd0_1173 h0 (by decide) g3 ?_
      refine z_ecV (vs := [.ref 19, .int x1, .int x2, .int x3]) (r := [.int (-1)]) (L2 := [some (.ref 19), some (.int x1), some (.int x2), some (.int x3)]) zd0_1174 zcV0_114 (Or.inl rfl) rfl b19 (by decide) rfl rfl rfl (Nat.le_of_ble_eq_true rfl) zm260 (Nat.le_of_ble_eq_true rfl) rfl ?_
      refine z_e1 (pc1 := 1) (L1 := [some (.ref 19), some (.int x1), some (.int x2), some (.int x3)]) (S1 := [.ref 19]) zd260_0 rfl rfl rfl ?_
      refine z_e1 (pc1 := 2) (L1 := [some (.ref 19), some (.int x1), some (.int x2), some (.int x3)]) (S1 := [.int x1, .ref 19]) zd260_1 rfl rfl rfl ?_
      refine z_ecV (vs := [.ref 19, .int x1]) (r := []) (L2 := [some (.ref 19), some (.int x1)]) zd260_2 zcV260_272 (Or.inl rfl) rfl b19 (by decide) rfl rfl rfl (Nat.le_of_ble_eq_true rfl) zm237 (Nat.le_of_ble_eq_true rfl) rfl ?_
      refine z_e1 (pc1 := 1) (L1 := [some (.ref 19), some (.int x1)]) (S1 := [.int x1]) zd237_0 rfl rfl rfl ?_
      refine z_ez (t := 16) (t2 := 16) zd237_1 rfl (z_b_ltx1 (k := 0) (by decide) (show x1.toInt < 0 from by omega)) ?_
      refine z_e1 (pc1 := 17) (L1 := [some (.ref 19), some (.int x1)]) (S1 := [.int 0]) zd237_16 rfl rfl rfl ?_
      refine z_erz zd237_17 zr237 (by decide) ?_
      show z_ev _ 260 5 [some (.ref 19), some (.int x1), some (.int x2), some (.int x3)] [.int 0] _ _
      refine z_ez (t := 17) (t2 := 17) zd260_5 rfl rfl ?_
      refine z_e1 (pc1 := 18) (L1 := [some (.ref 19), some (.int x1), some (.int x2), some (.int x3)]) (S1 := [.int (-1)]) zd260_17 rfl rfl rfl ?_
      refine z_eri zd260_18 zr260 ?_
      show z_ev _ 0 1177 [some (.ref 0), some (.ref 4), some (.ref 19), some (.int 0)] [.int (-1), .int (-1)] _ _
      refine z_ej (t := 1775) (t2 := 1775) zd0_1177 rfl rfl ?_
      refine z_e1 (pc1 := 1778) (L1 := [some (.ref 0), some (.ref 4), some (.ref 19), some (.int 6)]) (S1 := []) zd0_1775 rfl rfl rfl ?_
      refine z_e1 (pc1 := 18) (L1 := [some (.ref 0), some (.ref 4), some (.ref 19), some (.int 6)]) (S1 := []) zd0_1778 rfl rfl rfl ?_
      refine z_e1 (pc1 := 19) (L1 := [some (.ref 0), some (.ref 4), some (.ref 19), some (.int 6)]) (S1 := [.int 6]) zd0_18 rfl rfl rfl ?_
      refine z_e1 (pc1 := 20) (L1 := [some (.ref 0), some (.ref 4), some (.ref 19), some (.int 6)]) (S1 := [.ref 0, .int 6]) zd0_19 rfl rfl rfl ?_
      refine z_ealn (y := 6) zd0_20 h0 rfl ?_
      refine z_e1 (pc1 := 23) (L1 := [some (.ref 0), some (.ref 4), some (.ref 19), some (.int 6)]) (S1 := [.int 6, .int 6, .int 6]) zd0_21 rfl rfl rfl ?_
      refine z_e1 (pc1 := 24) (L1 := [some (.ref 0), some (.ref 4), some (.ref 19), some (.int 6)]) (S1 := [.int 0, .int 6]) zd0_23 rfl rfl rfl ?_
      refine z_ej (t := 1781) (t2 := 1781) zd0_24 rfl rfl ?_
      refine z_e1 (pc1 := 1782) (L1 := [some (.ref 0), some (.ref 4), some (.ref 19), some (.int 6)]) (S1 := [.int 1]) zd0_1781 rfl rfl rfl ?_
      refine z_erz zd0_1782 zr0 (by decide) ?_
      exact z_K1i hN hS (by decide) (by decide)
  · refine z_ez (t := 12) (t2 := 4) zd84_1 rfl (z_b_ltx0 (k := 0) (by decide) e1) ?_
    refine z_e1 (pc1 := 5) (L1 := [some (.ref 4), some (.int x1)]) (S1 := [.int x1]) zd84_4 rfl rfl rfl ?_
    refine z_e1 (pc1 := 6) (L1 := [some (.ref 4), some (.int x1)]) (S1 := [.ref 4, .int x1]) zd84_5 rfl rfl rfl ?_
    refine z_egf (fs := [.ref 5, .ref 10, .ref 11, .int 0, .ref 12, .int 0, .ref 13, .ref 14, .ref 15, .ref 16, .ref 17, .ref 18, .null]) (v := .int 0) zd84_6 zf84_188 b4 (by decide) (by decide) rfl ?_
    refine z_ej (t := 16) (t2 := 12) zd84_9 rfl (z_b_ltx0 (k := 0) (by decide) (show ¬ x1.toInt < 0 from by omega)) ?_
    refine z_e1 (pc1 := 13) (L1 := [some (.ref 4), some (.int x1)]) (S1 := [.null]) zd84_12 rfl rfl rfl ?_
    refine z_e1 (pc1 := 22) (L1 := [some (.ref 4), some (.int x1)]) (S1 := [.null]) zd84_13 rfl rfl rfl ?_
    refine z_ern zd84_22 zr84 ?_
    show z_ev _ 116 5 [some (.ref 4), some (.int x1), some (.int x2), some (.int x3), none, none] [.null] _ _
    refine z_e1 (pc1 := 7) (L1 := [some (.ref 4), some (.int x1), some (.int x2), some (.int x3), some (.null), none]) (S1 := []) zd116_5 rfl rfl rfl ?_
    refine z_e1 (pc1 := 8) (L1 := [some (.ref 4), some (.int x1), some (.int x2), some (.int x3), some (.null), none]) (S1 := [.ref 4]) zd116_7 rfl rfl rfl ?_
    refine z_e1 (pc1 := 9) (L1 := [some (.ref 4), some (.int x1), some (.int x2), some (.int x3), some (.null), none]) (S1 := [.int x2, .ref 4]) zd116_8 rfl rfl rfl ?_
    refine z_ecV (vs := [.ref 4, .int x2]) (r := []) (L2 := [some (.ref 4), some (.int x2)]) zd116_9 zcV116_85 (Or.inl rfl) rfl b4 (by decide) rfl rfl rfl (Nat.le_of_ble_eq_true rfl) zm35 (Nat.le_of_ble_eq_true rfl) rfl ?_
    refine z_e1 (pc1 := 1) (L1 := [some (.ref 4), some (.int x2)]) (S1 := [.int x2]) zd35_0 rfl rfl rfl ?_
    by_cases e3 : x2.toInt < 0
    · refine z_ez (t := 12) (t2 := 12) zd35_1 rfl (z_b_ltx1 (k := 0) (by decide) e3) ?_
      refine z_e1 (pc1 := 13) (L1 := [some (.ref 4), some (.int x2)]) (S1 := [.null]) zd35_12 rfl rfl rfl ?_
      refine z_e1 (pc1 := 22) (L1 := [some (.ref 4), some (.int x2)]) (S1 := [.null]) zd35_13 rfl rfl rfl ?_
      refine z_ern zd35_22 zr35 ?_
      show z_ev _ 116 12 [some (.ref 4), some (.int x1), some (.int x2), some (.int x3), some (.null), none] [.null] _ _
      refine z_e1 (pc1 := 14) (L1 := [some (.ref 4), some (.int x1), some (.int x2), some (.int x3), some (.null), some (.null)]) (S1 := []) zd116_12 rfl rfl rfl ?_
      refine z_e1 (pc1 := 16) (L1 := [some (.ref 4), some (.int x1), some (.int x2), some (.int x3), some (.null), some (.null)]) (S1 := [.null]) zd116_14 rfl rfl rfl ?_
      refine z_e1 (pc1 := 42) (L1 := [some (.ref 4), some (.int x1), some (.int x2), some (.int x3), some (.null), some (.null)]) (S1 := []) zd116_16 rfl rfl rfl ?_
      refine z_e1 (pc1 := 43) (L1 := [some (.ref 4), some (.int x1), some (.int x2), some (.int x3), some (.null), some (.null)]) (S1 := [.int (-1)]) zd116_42 rfl rfl rfl ?_
      refine z_eri zd116_43 zr116 ?_
      show z_ev _ 0 1158 [some (.ref 0), some (.ref 4), some (.ref 19), some (.int 0)] [.int (-1)] _ _
      refine z_e1 (pc1 := 1159) (L1 := [some (.ref 0), some (.ref 4), some (.ref 19), some (.int 0)]) (S1 := [.ref 19, .int (-1)]) zd0_1158 rfl rfl rfl ?_
      refine z_e1 (pc1 := 1160) (L1 := [some (.ref 0), some (.ref 4), some (.ref 19), some (.int 0)]) (S1 := [.ref 0, .ref 19, .int (-1)]) zd0_1159 rfl rfl rfl ?_
      refine z_e1 (pc1 := 1161) (L1 := [some (.ref 0), some (.ref 4), some (.ref 19), some (.int 0)]) (S1 := [.int 0, .ref 0, .ref 19, .int (-1)]) zd0_1160 rfl rfl rfl ?_
      refine z_e1 (pc1 := 1162) (L1 := [some (.ref 0), some (.ref 4), some (.ref 19), some (.int 0)]) (S1 := [.int 1, .int 0, .ref 0, .ref 19, .int (-1)]) zd0_1161 rfl rfl rfl ?_
      refine z_e1 (pc1 := 1163) (L1 := [some (.ref 0), some (.ref 4), some (.ref 19), some (.int 0)]) (S1 := [.int 1, .ref 0, .ref 19, .int (-1)]) zd0_1162 rfl rfl rfl ?_
      refine z_eial (y := x1) zd0_1163 h0 (by decide) g1 ?_
      refine z_e1 (pc1 := 1165) (L1 := [some (.ref 0), some (.ref 4), some (.ref 19), some (.int 0)]) (S1 := [.ref 0, .int x1, .ref 19, .int (-1)]) zd0_1164 rfl rfl rfl ?_
      refine z_e1 (pc1 := 1166) (L1 := [some (.ref 0), some (.ref 4), some (.ref 19), some (.int 0)]) (S1 := [.int 0, .ref 0, .int x1, .ref 19, .int (-1)]) zd0_1165 rfl rfl rfl ?_
      refine z_e1 (pc1 := 1167) (L1 := [some (.ref 0), some (.ref 4), some (.ref 19), some (.int 0)]) (S1 := [.int 2, .int 0, .ref 0, .int x1, .ref 19, .int (-1)]) zd0_1166 rfl rfl rfl ?_
      refine z_e1 (pc1 := 1168) (L1 := [some (.ref 0), some (.ref 4), some (.ref 19), some (.int 0)]) (S1 := [.int 2, .ref 0, .int x1, .ref 19, .int (-1)]) zd0_1167 rfl rfl rfl ?_
      refine z_eial (y := x2) zd0_1168 h0 (by decide) g2 ?_
      refine z_e1 (pc1 := 1170) (L1 := [some (.ref 0), some (.ref 4), some (.ref 19), some (.int 0)]) (S1 := [.ref 0, .int x2, .int x1, .ref 19, .int (-1)]) zd0_1169 rfl rfl rfl ?_
      refine z_e1 (pc1 := 1171) (L1 := [some (.ref 0), some (.ref 4), some (.ref 19), some (.int 0)]) (S1 := [.int 0, .ref 0, .int x2, .int x1, .ref 19, .int (-1)]) zd0_1170 rfl rfl rfl ?_
      refine z_e1 (pc1 := 1172) (L1 := [some (.ref 0), some (.ref 4), some (.ref 19), some (.int 0)]) (S1 := [.int 3, .int 0, .ref 0, .int x2, .int x1, .ref 19, .int (-1)]) zd0_1171 rfl rfl rfl ?_
      refine z_e1 (pc1 := 1173) (L1 := [some (.ref 0), some (.ref 4), some (.ref 19), some (.int 0)]) (S1 := [.int 3, .ref 0, .int x2, .int x1, .ref 19, .int (-1)]) zd0_1172 rfl rfl rfl ?_
      refine z_eial (y := x3) zd0_1173 h0 (by decide) g3 ?_
      refine z_ecV (vs := [.ref 19, .int x1, .int x2, .int x3]) (r := [.int (-1)]) (L2 := [some (.ref 19), some (.int x1), some (.int x2), some (.int x3)]) zd0_1174 zcV0_114 (Or.inl rfl) rfl b19 (by decide) rfl rfl rfl (Nat.le_of_ble_eq_true rfl) zm260 (Nat.le_of_ble_eq_true rfl) rfl ?_
      refine z_e1 (pc1 := 1) (L1 := [some (.ref 19), some (.int x1), some (.int x2), some (.int x3)]) (S1 := [.ref 19]) zd260_0 rfl rfl rfl ?_
      refine z_e1 (pc1 := 2) (L1 := [some (.ref 19), some (.int x1), some (.int x2), some (.int x3)]) (S1 := [.int x1, .ref 19]) zd260_1 rfl rfl rfl ?_
      refine z_ecV (vs := [.ref 19, .int x1]) (r := []) (L2 := [some (.ref 19), some (.int x1)]) zd260_2 zcV260_272 (Or.inl rfl) rfl b19 (by decide) rfl rfl rfl (Nat.le_of_ble_eq_true rfl) zm237 (Nat.le_of_ble_eq_true rfl) rfl ?_
      refine z_e1 (pc1 := 1) (L1 := [some (.ref 19), some (.int x1)]) (S1 := [.int x1]) zd237_0 rfl rfl rfl ?_
      refine z_ez (t := 16) (t2 := 4) zd237_1 rfl (z_b_ltx0 (k := 0) (by decide) (show ¬ x1.toInt < 0 from by omega)) ?_
      refine z_e1 (pc1 := 5) (L1 := [some (.ref 19), some (.int x1)]) (S1 := [.int x1]) zd237_4 rfl rfl rfl ?_
      refine z_e1 (pc1 := 6) (L1 := [some (.ref 19), some (.int x1)]) (S1 := [.ref 19, .int x1]) zd237_5 rfl rfl rfl ?_
      refine z_egf (fs := [.ref 20, .int 0, .ref 21, .ref 22, .ref 23, .ref 24, .ref 25, .ref 26, .ref 27, .ref 28, .ref 29, .ref 30, .ref 31, .int 0, .ref 32, .ref 33, .ref 34, .ref 35, .ref 36, .ref 37, .ref 38, .int 0, .int 0, .int 0, .int 0, .int 0, .int 0, .int 0, .int 0, .int 0, .int 0, .ref 39, .ref 40, .ref 41, .int 0, .int 0, .ref 42, .ref 43, .ref 44, .ref 45, .ref 46, .int 0, .ref 47, .int 0, .int 0, .int 0, .ref 48, .int 0, .int 0, .ref 49, .ref 50, .ref 51, .ref 52]) (v := .int 0) zd237_6 zf237_269 b19 (by decide) (by decide) rfl ?_
      refine z_ej (t := 16) (t2 := 16) zd237_9 rfl (z_b_gex0 (k := 0) (by decide) (show ¬ x1.toInt < 0 from by omega)) ?_
      refine z_e1 (pc1 := 17) (L1 := [some (.ref 19), some (.int x1)]) (S1 := [.int 0]) zd237_16 rfl rfl rfl ?_
      refine z_erz zd237_17 zr237 (by decide) ?_
      show z_ev _ 260 5 [some (.ref 19), some (.int x1), some (.int x2), some (.int x3)] [.int 0] _ _
      refine z_ez (t := 17) (t2 := 17) zd260_5 rfl rfl ?_
      refine z_e1 (pc1 := 18) (L1 := [some (.ref 19), some (.int x1), some (.int x2), some (.int x3)]) (S1 := [.int (-1)]) zd260_17 rfl rfl rfl ?_
      refine z_eri zd260_18 zr260 ?_
      show z_ev _ 0 1177 [some (.ref 0), some (.ref 4), some (.ref 19), some (.int 0)] [.int (-1), .int (-1)] _ _
      refine z_ej (t := 1775) (t2 := 1775) zd0_1177 rfl rfl ?_
      refine z_e1 (pc1 := 1778) (L1 := [some (.ref 0), some (.ref 4), some (.ref 19), some (.int 6)]) (S1 := []) zd0_1775 rfl rfl rfl ?_
      refine z_e1 (pc1 := 18) (L1 := [some (.ref 0), some (.ref 4), some (.ref 19), some (.int 6)]) (S1 := []) zd0_1778 rfl rfl rfl ?_
      refine z_e1 (pc1 := 19) (L1 := [some (.ref 0), some (.ref 4), some (.ref 19), some (.int 6)]) (S1 := [.int 6]) zd0_18 rfl rfl rfl ?_
      refine z_e1 (pc1 := 20) (L1 := [some (.ref 0), some (.ref 4), some (.ref 19), some (.int 6)]) (S1 := [.ref 0, .int 6]) zd0_19 rfl rfl rfl ?_
      refine z_ealn (y := 6) zd0_20 h0 rfl ?_
      refine z_e1 (pc1 := 23) (L1 := [some (.ref 0), some (.ref 4), some (.ref 19), some (.int 6)]) (S1 := [.int 6, .int 6, .int 6]) zd0_21 rfl rfl rfl ?_
      refine z_e1 (pc1 := 24) (L1 := [some (.ref 0), some (.ref 4), some (.ref 19), some (.int 6)]) (S1 := [.int 0, .int 6]) zd0_23 rfl rfl rfl ?_
      refine z_ej (t := 1781) (t2 := 1781) zd0_24 rfl rfl ?_
      refine z_e1 (pc1 := 1782) (L1 := [some (.ref 0), some (.ref 4), some (.ref 19), some (.int 6)]) (S1 := [.int 1]) zd0_1781 rfl rfl rfl ?_
      refine z_erz zd0_1782 zr0 (by decide) ?_
      exact z_K1i hN hS (by decide) (by decide)
    · refine z_ez (t := 12) (t2 := 4) zd35_1 rfl (z_b_ltx0 (k := 0) (by decide) e3) ?_
      refine z_e1 (pc1 := 5) (L1 := [some (.ref 4), some (.int x2)]) (S1 := [.int x2]) zd35_4 rfl rfl rfl ?_
      refine z_e1 (pc1 := 6) (L1 := [some (.ref 4), some (.int x2)]) (S1 := [.ref 4, .int x2]) zd35_5 rfl rfl rfl ?_
      refine z_egf (fs := [.ref 5, .ref 10, .ref 11, .int 0, .ref 12, .int 0, .ref 13, .ref 14, .ref 15, .ref 16, .ref 17, .ref 18, .null]) (v := .int 0) zd35_6 zf35_59 b4 (by decide) (by decide) rfl ?_
      refine z_ej (t := 16) (t2 := 12) zd35_9 rfl (z_b_ltx0 (k := 0) (by decide) (show ¬ x2.toInt < 0 from by omega)) ?_
      refine z_e1 (pc1 := 13) (L1 := [some (.ref 4), some (.int x2)]) (S1 := [.null]) zd35_12 rfl rfl rfl ?_
      refine z_e1 (pc1 := 22) (L1 := [some (.ref 4), some (.int x2)]) (S1 := [.null]) zd35_13 rfl rfl rfl ?_
      refine z_ern zd35_22 zr35 ?_
      show z_ev _ 116 12 [some (.ref 4), some (.int x1), some (.int x2), some (.int x3), some (.null), none] [.null] _ _
      refine z_e1 (pc1 := 14) (L1 := [some (.ref 4), some (.int x1), some (.int x2), some (.int x3), some (.null), some (.null)]) (S1 := []) zd116_12 rfl rfl rfl ?_
      refine z_e1 (pc1 := 16) (L1 := [some (.ref 4), some (.int x1), some (.int x2), some (.int x3), some (.null), some (.null)]) (S1 := [.null]) zd116_14 rfl rfl rfl ?_
      refine z_e1 (pc1 := 42) (L1 := [some (.ref 4), some (.int x1), some (.int x2), some (.int x3), some (.null), some (.null)]) (S1 := []) zd116_16 rfl rfl rfl ?_
      refine z_e1 (pc1 := 43) (L1 := [some (.ref 4), some (.int x1), some (.int x2), some (.int x3), some (.null), some (.null)]) (S1 := [.int (-1)]) zd116_42 rfl rfl rfl ?_
      refine z_eri zd116_43 zr116 ?_
      show z_ev _ 0 1158 [some (.ref 0), some (.ref 4), some (.ref 19), some (.int 0)] [.int (-1)] _ _
      refine z_e1 (pc1 := 1159) (L1 := [some (.ref 0), some (.ref 4), some (.ref 19), some (.int 0)]) (S1 := [.ref 19, .int (-1)]) zd0_1158 rfl rfl rfl ?_
      refine z_e1 (pc1 := 1160) (L1 := [some (.ref 0), some (.ref 4), some (.ref 19), some (.int 0)]) (S1 := [.ref 0, .ref 19, .int (-1)]) zd0_1159 rfl rfl rfl ?_
      refine z_e1 (pc1 := 1161) (L1 := [some (.ref 0), some (.ref 4), some (.ref 19), some (.int 0)]) (S1 := [.int 0, .ref 0, .ref 19, .int (-1)]) zd0_1160 rfl rfl rfl ?_
      refine z_e1 (pc1 := 1162) (L1 := [some (.ref 0), some (.ref 4), some (.ref 19), some (.int 0)]) (S1 := [.int 1, .int 0, .ref 0, .ref 19, .int (-1)]) zd0_1161 rfl rfl rfl ?_
      refine z_e1 (pc1 := 1163) (L1 := [some (.ref 0), some (.ref 4), some (.ref 19), some (.int 0)]) (S1 := [.int 1, .ref 0, .ref 19, .int (-1)]) zd0_1162 rfl rfl rfl ?_
      refine z_eial (y := x1) zd0_1163 h0 (by decide) g1 ?_
      refine z_e1 (pc1 := 1165) (L1 := [some (.ref 0), some (.ref 4), some (.ref 19), some (.int 0)]) (S1 := [.ref 0, .int x1, .ref 19, .int (-1)]) zd0_1164 rfl rfl rfl ?_
      refine z_e1 (pc1 := 1166) (L1 := [some (.ref 0), some (.ref 4), some (.ref 19), some (.int 0)]) (S1 := [.int 0, .ref 0, .int x1, .ref 19, .int (-1)]) zd0_1165 rfl rfl rfl ?_
      refine z_e1 (pc1 := 1167) (L1 := [some (.ref 0), some (.ref 4), some (.ref 19), some (.int 0)]) (S1 := [.int 2, .int 0, .ref 0, .int x1, .ref 19, .int (-1)]) zd0_1166 rfl rfl rfl ?_
      refine z_e1 (pc1 := 1168) (L1 := [some (.ref 0), some (.ref 4), some (.ref 19), some (.int 0)]) (S1 := [.int 2, .ref 0, .int x1, .ref 19, .int (-1)]) zd0_1167 rfl rfl rfl ?_
      refine z_eial (y := x2) zd0_1168 h0 (by decide) g2 ?_
      refine z_e1 (pc1 := 1170) (L1 := [some (.ref 0), some (.ref 4), some (.ref 19), some (.int 0)]) (S1 := [.ref 0, .int x2, .int x1, .ref 19, .int (-1)]) zd0_1169 rfl rfl rfl ?_
      refine z_e1 (pc1 := 1171) (L1 := [some (.ref 0), some (.ref 4), some (.ref 19), some (.int 0)]) (S1 := [.int 0, .ref 0, .int x2, .int x1, .ref 19, .int (-1)]) zd0_1170 rfl rfl rfl ?_
      refine z_e1 (pc1 := 1172) (L1 := [some (.ref 0), some (.ref 4), some (.ref 19), some (.int 0)]) (S1 := [.int 3, .int 0, .ref 0, .int x2, .int x1, .ref 19, .int (-1)]) zd0_1171 rfl rfl rfl ?_
      refine z_e1 (pc1 := 1173) (L1 := [some (.ref 0), some (.ref 4), some (.ref 19), some (.int 0)]) (S1 := [.int 3, .ref 0, .int x2, .int x1, .ref 19, .int (-1)]) zd0_1172 rfl rfl rfl ?_
      refine z_eial (y := x3) zd0_1173 h0 (by decide) g3 ?_
      refine z_ecV (vs := [.ref 19, .int x1, .int x2, .int x3]) (r := [.int (-1)]) (L2 := [some (.ref 19), some (.int x1), some (.int x2), some (.int x3)]) zd0_1174 zcV0_114 (Or.inl rfl) rfl b19 (by decide) rfl rfl rfl (Nat.le_of_ble_eq_true rfl) zm260 (Nat.le_of_ble_eq_true rfl) rfl ?_
      refine z_e1 (pc1 := 1) (L1 := [some (.ref 19), some (.int x1), some (.int x2), some (.int x3)]) (S1 := [.ref 19]) zd260_0 rfl rfl rfl ?_
      refine z_e1 (pc1 := 2) (L1 := [some (.ref 19), some (.int x1), some (.int x2), some (.int x3)]) (S1 := [.int x1, .ref 19]) zd260_1 rfl rfl rfl ?_
      refine z_ecV (vs := [.ref 19, .int x1]) (r := []) (L2 := [some (.ref 19), some (.int x1)]) zd260_2 zcV260_272 (Or.inl rfl) rfl b19 (by decide) rfl rfl rfl (Nat.le_of_ble_eq_true rfl) zm237 (Nat.le_of_ble_eq_true rfl) rfl ?_
      refine z_e1 (pc1 := 1) (L1 := [some (.ref 19), some (.int x1)]) (S1 := [.int x1]) zd237_0 rfl rfl rfl ?_
      refine z_ez (t := 16) (t2 := 4) zd237_1 rfl (z_b_ltx0 (k := 0) (by decide) (show ¬ x1.toInt < 0 from by omega)) ?_
      refine z_e1 (pc1 := 5) (L1 := [some (.ref 19), some (.int x1)]) (S1 := [.int x1]) zd237_4 rfl rfl rfl ?_
      refine z_e1 (pc1 := 6) (L1 := [some (.ref 19), some (.int x1)]) (S1 := [.ref 19, .int x1]) zd237_5 rfl rfl rfl ?_
      refine z_egf (fs := [.ref 20, .int 0, .ref 21, .ref 22, .ref 23, .ref 24, .ref 25, .ref 26, .ref 27, .ref 28, .ref 29, .ref 30, .ref 31, .int 0, .ref 32, .ref 33, .ref 34, .ref 35, .ref 36, .ref 37, .ref 38, .int 0, .int 0, .int 0, .int 0, .int 0, .int 0, .int 0, .int 0, .int 0, .int 0, .ref 39, .ref 40, .ref 41, .int 0, .int 0, .ref 42, .ref 43, .ref 44, .ref 45, .ref 46, .int 0, .ref 47, .int 0, .int 0, .int 0, .ref 48, .int 0, .int 0, .ref 49, .ref 50, .ref 51, .ref 52]) (v := .int 0) zd237_6 zf237_269 b19 (by decide) (by decide) rfl ?_
      refine z_ej (t := 16) (t2 := 16) zd237_9 rfl (z_b_gex0 (k := 0) (by decide) (show ¬ x1.toInt < 0 from by omega)) ?_
      refine z_e1 (pc1 := 17) (L1 := [some (.ref 19), some (.int x1)]) (S1 := [.int 0]) zd237_16 rfl rfl rfl ?_
      refine z_erz zd237_17 zr237 (by decide) ?_
      show z_ev _ 260 5 [some (.ref 19), some (.int x1), some (.int x2), some (.int x3)] [.int 0] _ _
      refine z_ez (t := 17) (t2 := 17) zd260_5 rfl rfl ?_
      refine z_e1 (pc1 := 18) (L1 := [some (.ref 19), some (.int x1), some (.int x2), some (.int x3)]) (S1 := [.int (-1)]) zd260_17 rfl rfl rfl ?_
      refine z_eri zd260_18 zr260 ?_
      show z_ev _ 0 1177 [some (.ref 0), some (.ref 4), some (.ref 19), some (.int 0)] [.int (-1), .int (-1)] _ _
      refine z_ej (t := 1775) (t2 := 1775) zd0_1177 rfl rfl ?_
      refine z_e1 (pc1 := 1778) (L1 := [some (.ref 0), some (.ref 4), some (.ref 19), some (.int 6)]) (S1 := []) zd0_1775 rfl rfl rfl ?_
      refine z_e1 (pc1 := 18) (L1 := [some (.ref 0), some (.ref 4), some (.ref 19), some (.int 6)]) (S1 := []) zd0_1778 rfl rfl rfl ?_
      refine z_e1 (pc1 := 19) (L1 := [some (.ref 0), some (.ref 4), some (.ref 19), some (.int 6)]) (S1 := [.int 6]) zd0_18 rfl rfl rfl ?_
      refine z_e1 (pc1 := 20) (L1 := [some (.ref 0), some (.ref 4), some (.ref 19), some (.int 6)]) (S1 := [.ref 0, .int 6]) zd0_19 rfl rfl rfl ?_
      refine z_ealn (y := 6) zd0_20 h0 rfl ?_
      refine z_e1 (pc1 := 23) (L1 := [some (.ref 0), some (.ref 4), some (.ref 19), some (.int 6)]) (S1 := [.int 6, .int 6, .int 6]) zd0_21 rfl rfl rfl ?_
      refine z_e1 (pc1 := 24) (L1 := [some (.ref 0), some (.ref 4), some (.ref 19), some (.int 6)]) (S1 := [.int 0, .int 6]) zd0_23 rfl rfl rfl ?_
      refine z_ej (t := 1781) (t2 := 1781) zd0_24 rfl rfl ?_
      refine z_e1 (pc1 := 1782) (L1 := [some (.ref 0), some (.ref 4), some (.ref 19), some (.int 6)]) (S1 := [.int 1]) zd0_1781 rfl rfl rfl ?_
      refine z_erz zd0_1782 zr0 (by decide) ?_
      exact z_K1i hN hS (by decide) (by decide)
theorem z_C24 {M : zH} {xs : Nat → Int32} {x1 x2 x3 x4 x5 : Int32} (h0 : M[0]? = some (.inl (0, 6, .inl xs))) (hN : M.length = 53) (hS : z_sz M ≤ 50000) (hB : z_fr M 4 53) (g1 : xs 1 = x1) (g2 : xs 2 = x2) (g3 : xs 3 = x3) (g4 : xs 4 = x4) (g5 : xs 5 = x5) : z_ev 2047 0 1182 [some (.ref 0), some (.ref 4), some (.ref 19), some (.int 0)] [] M z_K1 := by
  have b4 := z_qO (hB 4 (by decide) (by decide))
  have b19 := z_qO (hB 19 (by decide) (by decide))
  refine z_e1 (pc1 := 1183) (L1 := [some (.ref 0), some (.ref 4), some (.ref 19), some (.int 0)]) (S1 := [.ref 4]) zd0_1182 rfl rfl rfl ?_
  refine z_e1 (pc1 := 1184) (L1 := [some (.ref 0), some (.ref 4), some (.ref 19), some (.int 0)]) (S1 := [.ref 0, .ref 4]) zd0_1183 rfl rfl rfl ?_
  refine z_e1 (pc1 := 1185) (L1 := [some (.ref 0), some (.ref 4), some (.ref 19), some (.int 0)]) (S1 := [.int 0, .ref 0, .ref 4]) zd0_1184 rfl rfl rfl ?_
  refine z_e1 (pc1 := 1186) (L1 := [some (.ref 0), some (.ref 4), some (.ref 19), some (.int 0)]) (S1 := [.int 1, .int 0, .ref 0, .ref 4]) zd0_1185 rfl rfl rfl ?_
  refine z_e1 (pc1 := 1187) (L1 := [some (.ref 0), some (.ref 4), some (.ref 19), some (.int 0)]) (S1 := [.int 1, .ref 0, .ref 4]) zd0_1186 rfl rfl rfl ?_
  refine z_eial (y := x1) zd0_1187 h0 (by decide) g1 ?_
  refine z_e1 (pc1 := 1189) (L1 := [some (.ref 0), some (.ref 4), some (.ref 19), some (.int 0)]) (S1 := [.ref 0, .int x1, .ref 4]) zd0_1188 rfl rfl rfl ?_
  refine z_e1 (pc1 := 1190) (L1 := [some (.ref 0), some (.ref 4), some (.ref 19), some (.int 0)]) (S1 := [.int 0, .ref 0, .int x1, .ref 4]) zd0_1189 rfl rfl rfl ?_
  refine z_e1 (pc1 := 1191) (L1 := [some (.ref 0), some (.ref 4), some (.ref 19), some (.int 0)]) (S1 := [.int 2, .int 0, .ref 0, .int x1, .ref 4]) zd0_1190 rfl rfl rfl ?_
  refine z_e1 (pc1 := 1192) (L1 := [some (.ref 0), some (.ref 4), some (.ref 19), some (.int 0)]) (S1 := [.int 2, .ref 0, .int x1, .ref 4]) zd0_1191 rfl rfl rfl ?_
  refine z_eial (y := x2) zd0_1192 h0 (by decide) g2 ?_
  refine z_e1 (pc1 := 1194) (L1 := [some (.ref 0), some (.ref 4), some (.ref 19), some (.int 0)]) (S1 := [.ref 0, .int x2, .int x1, .ref 4]) zd0_1193 rfl rfl rfl ?_
  refine z_e1 (pc1 := 1195) (L1 := [some (.ref 0), some (.ref 4), some (.ref 19), some (.int 0)]) (S1 := [.int 0, .ref 0, .int x2, .int x1, .ref 4]) zd0_1194 rfl rfl rfl ?_
  refine z_e1 (pc1 := 1196) (L1 := [some (.ref 0), some (.ref 4), some (.ref 19), some (.int 0)]) (S1 := [.int 3, .int 0, .ref 0, .int x2, .int x1, .ref 4]) zd0_1195 rfl rfl rfl ?_
  refine z_e1 (pc1 := 1197) (L1 := [some (.ref 0), some (.ref 4), some (.ref 19), some (.int 0)]) (S1 := [.int 3, .ref 0, .int x2, .int x1, .ref 4]) zd0_1196 rfl rfl rfl ?_
  refine z_eial (y := x3) zd0_1197 h0 (by decide) g3 ?_
  refine z_ecV (vs := [.ref 4, .int x1, .int x2, .int x3]) (r := []) (L2 := [some (.ref 4), some (.int x1), some (.int x2), some (.int x3), none, none]) zd0_1198 zcV0_115 (Or.inl rfl) rfl b4 (by decide) rfl rfl rfl (Nat.le_of_ble_eq_true rfl) zm119 (Nat.le_of_ble_eq_true rfl) rfl ?_
  refine z_e1 (pc1 := 1) (L1 := [some (.ref 4), some (.int x1), some (.int x2), some (.int x3), none, none]) (S1 := [.ref 4]) zd119_0 rfl rfl rfl ?_
  refine z_e1 (pc1 := 2) (L1 := [some (.ref 4), some (.int x1), some (.int x2), some (.int x3), none, none]) (S1 := [.int x1, .ref 4]) zd119_1 rfl rfl rfl ?_
  refine z_ecV (vs := [.ref 4, .int x1]) (r := []) (L2 := [some (.ref 4), some (.int x1)]) zd119_2 zcV119_221 (Or.inl rfl) rfl b4 (by decide) rfl rfl rfl (Nat.le_of_ble_eq_true rfl) zm84 (Nat.le_of_ble_eq_true rfl) rfl ?_
  refine z_e1 (pc1 := 1) (L1 := [some (.ref 4), some (.int x1)]) (S1 := [.int x1]) zd84_0 rfl rfl rfl ?_
  by_cases e1 : x1.toInt < 0
  · refine z_ez (t := 12) (t2 := 12) zd84_1 rfl (z_b_ltx1 (k := 0) (by decide) e1) ?_
    refine z_e1 (pc1 := 13) (L1 := [some (.ref 4), some (.int x1)]) (S1 := [.null]) zd84_12 rfl rfl rfl ?_
    refine z_e1 (pc1 := 22) (L1 := [some (.ref 4), some (.int x1)]) (S1 := [.null]) zd84_13 rfl rfl rfl ?_
    refine z_ern zd84_22 zr84 ?_
    show z_ev _ 119 5 [some (.ref 4), some (.int x1), some (.int x2), some (.int x3), none, none] [.null] _ _
    refine z_e1 (pc1 := 7) (L1 := [some (.ref 4), some (.int x1), some (.int x2), some (.int x3), some (.null), none]) (S1 := []) zd119_5 rfl rfl rfl ?_
    refine z_e1 (pc1 := 9) (L1 := [some (.ref 4), some (.int x1), some (.int x2), some (.int x3), some (.null), none]) (S1 := [.null]) zd119_7 rfl rfl rfl ?_
    refine z_e1 (pc1 := 12) (L1 := [some (.ref 4), some (.int x1), some (.int x2), some (.int x3), some (.null), none]) (S1 := []) zd119_9 rfl rfl rfl ?_
    refine z_e1 (pc1 := 13) (L1 := [some (.ref 4), some (.int x1), some (.int x2), some (.int x3), some (.null), none]) (S1 := [.int (-1)]) zd119_12 rfl rfl rfl ?_
    refine z_eri zd119_13 zr119 ?_
    show z_ev _ 0 1201 [some (.ref 0), some (.ref 4), some (.ref 19), some (.int 0)] [.int (-1)] _ _
    refine z_e1 (pc1 := 1202) (L1 := [some (.ref 0), some (.ref 4), some (.ref 19), some (.int 0)]) (S1 := [.ref 19, .int (-1)]) zd0_1201 rfl rfl rfl ?_
    refine z_e1 (pc1 := 1203) (L1 := [some (.ref 0), some (.ref 4), some (.ref 19), some (.int 0)]) (S1 := [.ref 0, .ref 19, .int (-1)]) zd0_1202 rfl rfl rfl ?_
    refine z_e1 (pc1 := 1204) (L1 := [some (.ref 0), some (.ref 4), some (.ref 19), some (.int 0)]) (S1 := [.int 0, .ref 0, .ref 19, .int (-1)]) zd0_1203 rfl rfl rfl ?_
    refine z_e1 (pc1 := 1205) (L1 := [some (.ref 0), some (.ref 4), some (.ref 19), some (.int 0)]) (S1 := [.int 1, .int 0, .ref 0, .ref 19, .int (-1)]) zd0_1204 rfl rfl rfl ?_
    refine z_e1 (pc1 := 1206) (L1 := [some (.ref 0), some (.ref 4), some (.ref 19), some (.int 0)]) (S1 := [.int 1, .ref 0, .ref 19, .int (-1)]) zd0_1205 rfl rfl rfl ?_
    refine z_eial (y := x1) zd0_1206 h0 (by decide) g1 ?_
    refine z_e1 (pc1 := 1208) (L1 := [some (.ref 0), some (.ref 4), some (.ref 19), some (.int 0)]) (S1 := [.ref 0, .int x1, .ref 19, .int (-1)]) zd0_1207 rfl rfl rfl ?_
    refine z_e1 (pc1 := 1209) (L1 := [some (.ref 0), some (.ref 4), some (.ref 19), some (.int 0)]) (S1 := [.int 0, .ref 0, .int x1, .ref 19, .int (-1)]) zd0_1208 rfl rfl rfl ?_
    refine z_e1 (pc1 := 1210) (L1 := [some (.ref 0), some (.ref 4), some (.ref 19), some (.int 0)]) (S1 := [.int 2, .int 0, .ref 0, .int x1, .ref 19, .int (-1)]) zd0_1209 rfl rfl rfl ?_
    refine z_e1 (pc1 := 1211) (L1 := [some (.ref 0), some (.ref 4), some (.ref 19), some (.int 0)]) (S1 := [.int 2, .ref 0, .int x1, .ref 19, .int (-1)]) zd0_1210 rfl rfl rfl ?_
    refine z_eial (y := x2) zd0_1211 h0 (by decide) g2 ?_
    refine z_e1 (pc1 := 1213) (L1 := [some (.ref 0), some (.ref 4), some (.ref 19), some (.int 0)]) (S1 := [.ref 0, .int x2, .int x1, .ref 19, .int (-1)]) zd0_1212 rfl rfl rfl ?_
    refine z_e1 (pc1 := 1214) (L1 := [some (.ref 0), some (.ref 4), some (.ref 19), some (.int 0)]) (S1 := [.int 0, .ref 0, .int x2, .int x1, .ref 19, .int (-1)]) zd0_1213 rfl rfl rfl ?_
    refine z_e1 (pc1 := 1215) (L1 := [some (.ref 0), some (.ref 4), some (.ref 19), some (.int 0)]) (S1 := [.int 3, .int 0, .ref 0, .int x2, .int x1, .ref 19, .int (-1)]) zd0_1214 rfl rfl rfl ?_
    refine z_e1 (pc1 := 1216) (L1 := [some (.ref 0), some (.ref 4), some (.ref 19), some (.int 0)]) (S1 := [.int 3, .ref 0, .int x2, .int x1, .ref 19, .int (-1)]) zd0_1215 rfl rfl rfl ?_
    refine z_eial (y := x3) zd0_1216 h0 (by decide) g3 ?_
    refine z_ecV (vs := [.ref 19, .int x1, .int x2, .int x3]) (r := [.int (-1)]) (L2 := [some (.ref 19), some (.int x1), some (.int x2), some (.int x3), none, none, none, none, none]) zd0_1217 zcV0_118 (Or.inl rfl) rfl b19 (by decide) rfl rfl rfl (Nat.le_of_ble_eq_true rfl) zm263 (Nat.le_of_ble_eq_true rfl) rfl ?_
    refine z_e1 (pc1 := 1) (L1 := [some (.ref 19), some (.int x1), some (.int x2), some (.int x3), none, none, none, none, none]) (S1 := [.ref 19]) zd263_0 rfl rfl rfl ?_
    refine z_e1 (pc1 := 2) (L1 := [some (.ref 19), some (.int x1), some (.int x2), some (.int x3), none, none, none, none, none]) (S1 := [.int x1, .ref 19]) zd263_1 rfl rfl rfl ?_
    refine z_ecV (vs := [.ref 19, .int x1]) (r := []) (L2 := [some (.ref 19), some (.int x1)]) zd263_2 zcV263_272 (Or.inl rfl) rfl b19 (by decide) rfl rfl rfl (Nat.le_of_ble_eq_true rfl) zm237 (Nat.le_of_ble_eq_true rfl) rfl ?_
    refine z_e1 (pc1 := 1) (L1 := [some (.ref 19), some (.int x1)]) (S1 := [.int x1]) zd237_0 rfl rfl rfl ?_
    refine z_ez (t := 16) (t2 := 16) zd237_1 rfl (z_b_ltx1 (k := 0) (by decide) (show x1.toInt < 0 from by omega)) ?_
    refine z_e1 (pc1 := 17) (L1 := [some (.ref 19), some (.int x1)]) (S1 := [.int 0]) zd237_16 rfl rfl rfl ?_
    refine z_erz zd237_17 zr237 (by decide) ?_
    show z_ev _ 263 5 [some (.ref 19), some (.int x1), some (.int x2), some (.int x3), none, none, none, none, none] [.int 0] _ _
    refine z_ez (t := 10) (t2 := 8) zd263_5 rfl rfl ?_
    refine z_e1 (pc1 := 9) (L1 := [some (.ref 19), some (.int x1), some (.int x2), some (.int x3), none, none, none, none, none]) (S1 := [.int (-1)]) zd263_8 rfl rfl rfl ?_
    refine z_eri zd263_9 zr263 ?_
    show z_ev _ 0 1220 [some (.ref 0), some (.ref 4), some (.ref 19), some (.int 0)] [.int (-1), .int (-1)] _ _
    refine z_ej (t := 1775) (t2 := 1775) zd0_1220 rfl rfl ?_
    refine z_e1 (pc1 := 1778) (L1 := [some (.ref 0), some (.ref 4), some (.ref 19), some (.int 6)]) (S1 := []) zd0_1775 rfl rfl rfl ?_
    refine z_e1 (pc1 := 18) (L1 := [some (.ref 0), some (.ref 4), some (.ref 19), some (.int 6)]) (S1 := []) zd0_1778 rfl rfl rfl ?_
    refine z_e1 (pc1 := 19) (L1 := [some (.ref 0), some (.ref 4), some (.ref 19), some (.int 6)]) (S1 := [.int 6]) zd0_18 rfl rfl rfl ?_
    refine z_e1 (pc1 := 20) (L1 := [some (.ref 0), some (.ref 4), some (.ref 19), some (.int 6)]) (S1 := [.ref 0, .int 6]) zd0_19 rfl rfl rfl ?_
    refine z_ealn (y := 6) zd0_20 h0 rfl ?_
    refine z_e1 (pc1 := 23) (L1 := [some (.ref 0), some (.ref 4), some (.ref 19), some (.int 6)]) (S1 := [.int 6, .int 6, .int 6]) zd0_21 rfl rfl rfl ?_
    refine z_e1 (pc1 := 24) (L1 := [some (.ref 0), some (.ref 4), some (.ref 19), some (.int 6)]) (S1 := [.int 0, .int 6]) zd0_23 rfl rfl rfl ?_
    refine z_ej (t := 1781) (t2 := 1781) zd0_24 rfl rfl ?_
    refine z_e1 (pc1 := 1782) (L1 := [some (.ref 0), some (.ref 4), some (.ref 19), some (.int 6)]) (S1 := [.int 1]) zd0_1781 rfl rfl rfl ?_
    refine z_erz zd0_1782 zr0 (by decide) ?_
    exact z_K1i hN hS (by decide) (by decide)
  · refine z_ez (t := 12) (t2 := 4) zd84_1 rfl (z_b_ltx0 (k := 0) (by decide) e1) ?_
    refine z_e1 (pc1 := 5) (L1 := [some (.ref 4), some (.int x1)]) (S1 := [.int x1]) zd84_4 rfl rfl rfl ?_
    refine z_e1 (pc1 := 6) (L1 := [some (.ref 4), some (.int x1)]) (S1 := [.ref 4, .int x1]) zd84_5 rfl rfl rfl ?_
    refine z_egf (fs := [.ref 5, .ref 10, .ref 11, .int 0, .ref 12, .int 0, .ref 13, .ref 14, .ref 15, .ref 16, .ref 17, .ref 18, .null]) (v := .int 0) zd84_6 zf84_188 b4 (by decide) (by decide) rfl ?_
    refine z_ej (t := 16) (t2 := 12) zd84_9 rfl (z_b_ltx0 (k := 0) (by decide) (show ¬ x1.toInt < 0 from by omega)) ?_
    refine z_e1 (pc1 := 13) (L1 := [some (.ref 4), some (.int x1)]) (S1 := [.null]) zd84_12 rfl rfl rfl ?_
    refine z_e1 (pc1 := 22) (L1 := [some (.ref 4), some (.int x1)]) (S1 := [.null]) zd84_13 rfl rfl rfl ?_
    refine z_ern zd84_22 zr84 ?_
    show z_ev _ 119 5 [some (.ref 4), some (.int x1), some (.int x2), some (.int x3), none, none] [.null] _ _
    refine z_e1 (pc1 := 7) (L1 := [some (.ref 4), some (.int x1), some (.int x2), some (.int x3), some (.null), none]) (S1 := []) zd119_5 rfl rfl rfl ?_
    refine z_e1 (pc1 := 9) (L1 := [some (.ref 4), some (.int x1), some (.int x2), some (.int x3), some (.null), none]) (S1 := [.null]) zd119_7 rfl rfl rfl ?_
    refine z_e1 (pc1 := 12) (L1 := [some (.ref 4), some (.int x1), some (.int x2), some (.int x3), some (.null), none]) (S1 := []) zd119_9 rfl rfl rfl ?_
    refine z_e1 (pc1 := 13) (L1 := [some (.ref 4), some (.int x1), some (.int x2), some (.int x3), some (.null), none]) (S1 := [.int (-1)]) zd119_12 rfl rfl rfl ?_
    refine z_eri zd119_13 zr119 ?_
    show z_ev _ 0 1201 [some (.ref 0), some (.ref 4), some (.ref 19), some (.int 0)] [.int (-1)] _ _
    refine z_e1 (pc1 := 1202) (L1 := [some (.ref 0), some (.ref 4), some (.ref 19), some (.int 0)]) (S1 := [.ref 19, .int (-1)]) zd0_1201 rfl rfl rfl ?_
    refine z_e1 (pc1 := 1203) (L1 := [some (.ref 0), some (.ref 4), some (.ref 19), some (.int 0)]) (S1 := [.ref 0, .ref 19, .int (-1)]) zd0_1202 rfl rfl rfl ?_
    refine z_e1 (pc1 := 1204) (L1 := [some (.ref 0), some (.ref 4), some (.ref 19), some (.int 0)]) (S1 := [.int 0, .ref 0, .ref 19, .int (-1)]) zd0_1203 rfl rfl rfl ?_
    refine z_e1 (pc1 := 1205) (L1 := [some (.ref 0), some (.ref 4), some (.ref 19), some (.int 0)]) (S1 := [.int 1, .int 0, .ref 0, .ref 19, .int (-1)]) zd0_1204 rfl rfl rfl ?_
    refine z_e1 (pc1 := 1206) (L1 := [some (.ref 0), some (.ref 4), some (.ref 19), some (.int 0)]) (S1 := [.int 1, .ref 0, .ref 19, .int (-1)]) zd0_1205 rfl rfl rfl ?_
    refine z_eial (y := x1) zd0_1206 h0 (by decide) g1 ?_
    refine z_e1 (pc1 := 1208) (L1 := [some (.ref 0), some (.ref 4), some (.ref 19), some (.int 0)]) (S1 := [.ref 0, .int x1, .ref 19, .int (-1)]) zd0_1207 rfl rfl rfl ?_
    refine z_e1 (pc1 := 1209) (L1 := [some (.ref 0), some (.ref 4), some (.ref 19), some (.int 0)]) (S1 := [.int 0, .ref 0, .int x1, .ref 19, .int (-1)]) zd0_1208 rfl rfl rfl ?_
    refine z_e1 (pc1 := 1210) (L1 := [some (.ref 0), some (.ref 4), some (.ref 19), some (.int 0)]) (S1 := [.int 2, .int 0, .ref 0, .int x1, .ref 19, .int (-1)]) zd0_1209 rfl rfl rfl ?_
    refine z_e1 (pc1 := 1211) (L1 := [some (.ref 0), some (.ref 4), some (.ref 19), some (.int 0)]) (S1 := [.int 2, .ref 0, .int x1, .ref 19, .int (-1)]) zd0_1210 rfl rfl rfl ?_
    refine z_eial (y := x2) zd0_1211 h0 (by decide) g2 ?_
    refine z_e1 (pc1 := 1213) (L1 := [some (.ref 0), some (.ref 4), some (.ref 19), some (.int 0)]) (S1 := [.ref 0, .int x2, .int x1, .ref 19, .int (-1)]) zd0_1212 rfl rfl rfl ?_
    refine z_e1 (pc1 := 1214) (L1 := [some (.ref 0), some (.ref 4), some (.ref 19), some (.int 0)]) (S1 := [.int 0, .ref 0, .int x2, .int x1, .ref 19, .int (-1)]) zd0_1213 rfl rfl rfl ?_
    refine z_e1 (pc1 := 1215) (L1 := [some (.ref 0), some (.ref 4), some (.ref 19), some (.int 0)]) (S1 := [.int 3, .int 0, .ref 0, .int x2, .int x1, .ref 19, .int (-1)]) zd0_1214 rfl rfl rfl ?_
    refine z_e1 (pc1 := 1216) (L1 := [some (.ref 0), some (.ref 4), some (.ref 19), some (.int 0)]) (S1 := [.int 3, .ref 0, .int x2, .int x1, .ref 19, .int (-1)]) zd0_1215 rfl rfl rfl ?_
    refine z_eial (y := x3) zd0_1216 h0 (by decide) g3 ?_
    refine z_ecV (vs := [.ref 19, .int x1, .int x2, .int x3]) (r := [.int (-1)]) (L2 := [some (.ref 19), some (.int x1), some (.int x2), some (.int x3), none, none, none, none, none]) zd0_1217 zcV0_118 (Or.inl rfl) rfl b19 (by decide) rfl rfl rfl (Nat.le_of_ble_eq_true rfl) zm263 (Nat.le_of_ble_eq_true rfl) rfl ?_
    refine z_e1 (pc1 := 1) (L1 := [some (.ref 19), some (.int x1), some (.int x2), some (.int x3), none, none, none, none, none]) (S1 := [.ref 19]) zd263_0 rfl rfl rfl ?_
    refine z_e1 (pc1 := 2) (L1 := [some (.ref 19), some (.int x1), some (.int x2), some (.int x3), none, none, none, none, none]) (S1 := [.int x1, .ref 19]) zd263_1 rfl rfl rfl ?_
    refine z_ecV (vs := [.ref 19, .int x1]) (r := []) (L2 := [some (.ref 19), some (.int x1)]) zd263_2 zcV263_272 (Or.inl rfl) rfl b19 (by decide) rfl rfl rfl (Nat.le_of_ble_eq_true rfl) zm237 (Nat.le_of_ble_eq_true rfl) rfl ?_
    refine z_e1 (pc1 := 1) (L1 := [some (.ref 19), some (.int x1)]) (S1 := [.int x1]) zd237_0 rfl rfl rfl ?_
    refine z_ez (t := 16) (t2 := 4) zd237_1 rfl (z_b_ltx0 (k := 0) (by decide) (show ¬ x1.toInt < 0 from by omega)) ?_
    refine z_e1 (pc1 := 5) (L1 := [some (.ref 19), some (.int x1)]) (S1 := [.int x1]) zd237_4 rfl rfl rfl ?_
    refine z_e1 (pc1 := 6) (L1 := [some (.ref 19), some (.int x1)]) (S1 := [.ref 19, .int x1]) zd237_5 rfl rfl rfl ?_
    refine z_egf (fs := [.ref 20, .int 0, .ref 21, .ref 22, .ref 23, .ref 24, .ref 25, .ref 26, .ref 27, .ref 28, .ref 29, .ref 30, .ref 31, .int 0, .ref 32, .ref 33, .ref 34, .ref 35, .ref 36, .ref 37, .ref 38, .int 0, .int 0, .int 0, .int 0, .int 0, .int 0, .int 0, .int 0, .int 0, .int 0, .ref 39, .ref 40, .ref 41, .int 0, .int 0, .ref 42, .ref 43, .ref 44, .ref 45, .ref 46, .int 0, .ref 47, .int 0, .int 0, .int 0, .ref 48, .int 0, .int 0, .ref 49, .ref 50, .ref 51, .ref 52]) (v := .int 0) zd237_6 zf237_269 b19 (by decide) (by decide) rfl ?_
    refine z_ej (t := 16) (t2 := 16) zd237_9 rfl (z_b_gex0 (k := 0) (by decide) (show ¬ x1.toInt < 0 from by omega)) ?_
    refine z_e1 (pc1 := 17) (L1 := [some (.ref 19), some (.int x1)]) (S1 := [.int 0]) zd237_16 rfl rfl rfl ?_
    refine z_erz zd237_17 zr237 (by decide) ?_
    show z_ev _ 263 5 [some (.ref 19), some (.int x1), some (.int x2), some (.int x3), none, none, none, none, none] [.int 0] _ _
    refine z_ez (t := 10) (t2 := 8) zd263_5 rfl rfl ?_
    refine z_e1 (pc1 := 9) (L1 := [some (.ref 19), some (.int x1), some (.int x2), some (.int x3), none, none, none, none, none]) (S1 := [.int (-1)]) zd263_8 rfl rfl rfl ?_
    refine z_eri zd263_9 zr263 ?_
    show z_ev _ 0 1220 [some (.ref 0), some (.ref 4), some (.ref 19), some (.int 0)] [.int (-1), .int (-1)] _ _
    refine z_ej (t := 1775) (t2 := 1775) zd0_1220 rfl rfl ?_
    refine z_e1 (pc1 := 1778) (L1 := [some (.ref 0), some (.ref 4), some (.ref 19), some (.int 6)]) (S1 := []) zd0_1775 rfl rfl rfl ?_
    refine z_e1 (pc1 := 18) (L1 := [some (.ref 0), some (.ref 4), some (.ref 19), some (.int 6)]) (S1 := []) zd0_1778 rfl rfl rfl ?_
    refine z_e1 (pc1 := 19) (L1 := [some (.ref 0), some (.ref 4), some (.ref 19), some (.int 6)]) (S1 := [.int 6]) zd0_18 rfl rfl rfl ?_
    refine z_e1 (pc1 := 20) (L1 := [some (.ref 0), some (.ref 4), some (.ref 19), some (.int 6)]) (S1 := [.ref 0, .int 6]) zd0_19 rfl rfl rfl ?_
    refine z_ealn (y := 6) zd0_20 h0 rfl ?_
    refine z_e1 (pc1 := 23) (L1 := [some (.ref 0), some (.ref 4), some (.ref 19), some (.int 6)]) (S1 := [.int 6, .int 6, .int 6]) zd0_21 rfl rfl rfl ?_
    refine z_e1 (pc1 := 24) (L1 := [some (.ref 0), some (.ref 4), some (.ref 19), some (.int 6)]) (S1 := [.int 0, .int 6]) zd0_23 rfl rfl rfl ?_
    refine z_ej (t := 1781) (t2 := 1781) zd0_24 rfl rfl ?_
    refine z_e1 (pc1 := 1782) (L1 := [some (.ref 0), some (.ref 4), some (.ref 19), some (.int 6)]) (S1 := [.int 1]) zd0_1781 rfl rfl rfl ?_
    refine z_erz zd0_1782 zr0 (by decide) ?_
    exact z_K1i hN hS (by decide) (by decide)
theorem z_C25 {M : zH} {xs : Nat → Int32} {x1 x2 x3 x4 x5 : Int32} (h0 : M[0]? = some (.inl (0, 6, .inl xs))) (hN : M.length = 53) (hS : z_sz M ≤ 50000) (hB : z_fr M 4 53) (g1 : xs 1 = x1) (g2 : xs 2 = x2) (g3 : xs 3 = x3) (g4 : xs 4 = x4) (g5 : xs 5 = x5) : z_ev 2047 0 1225 [some (.ref 0), some (.ref 4), some (.ref 19), some (.int 0)] [] M z_K1 := by
  have b4 := z_qO (hB 4 (by decide) (by decide))
  have b19 := z_qO (hB 19 (by decide) (by decide))
  refine z_e1 (pc1 := 1226) (L1 := [some (.ref 0), some (.ref 4), some (.ref 19), some (.int 0)]) (S1 := [.ref 4]) zd0_1225 rfl rfl rfl ?_
  refine z_e1 (pc1 := 1227) (L1 := [some (.ref 0), some (.ref 4), some (.ref 19), some (.int 0)]) (S1 := [.ref 0, .ref 4]) zd0_1226 rfl rfl rfl ?_
  refine z_e1 (pc1 := 1228) (L1 := [some (.ref 0), some (.ref 4), some (.ref 19), some (.int 0)]) (S1 := [.int 0, .ref 0, .ref 4]) zd0_1227 rfl rfl rfl ?_
  refine z_e1 (pc1 := 1229) (L1 := [some (.ref 0), some (.ref 4), some (.ref 19), some (.int 0)]) (S1 := [.int 1, .int 0, .ref 0, .ref 4]) zd0_1228 rfl rfl rfl ?_
  refine z_e1 (pc1 := 1230) (L1 := [some (.ref 0), some (.ref 4), some (.ref 19), some (.int 0)]) (S1 := [.int 1, .ref 0, .ref 4]) zd0_1229 rfl rfl rfl ?_
  refine z_eial (y := x1) zd0_1230 h0 (by decide) g1 ?_
  refine z_e1 (pc1 := 1232) (L1 := [some (.ref 0), some (.ref 4), some (.ref 19), some (.int 0)]) (S1 := [.ref 0, .int x1, .ref 4]) zd0_1231 rfl rfl rfl ?_
  refine z_e1 (pc1 := 1233) (L1 := [some (.ref 0), some (.ref 4), some (.ref 19), some (.int 0)]) (S1 := [.int 0, .ref 0, .int x1, .ref 4]) zd0_1232 rfl rfl rfl ?_
  refine z_e1 (pc1 := 1234) (L1 := [some (.ref 0), some (.ref 4), some (.ref 19), some (.int 0)]) (S1 := [.int 2, .int 0, .ref 0, .int x1, .ref 4]) zd0_1233 rfl rfl rfl ?_
  refine z_e1 (pc1 := 1235) (L1 := [some (.ref 0), some (.ref 4), some (.ref 19), some (.int 0)]) (S1 := [.int 2, .ref 0, .int x1, .ref 4]) zd0_1234 rfl rfl rfl ?_
  refine z_eial (y := x2) zd0_1235 h0 (by decide) g2 ?_
  refine z_e1 (pc1 := 1237) (L1 := [some (.ref 0), some (.ref 4), some (.ref 19), some (.int 0)]) (S1 := [.ref 0, .int x2, .int x1, .ref 4]) zd0_1236 rfl rfl rfl ?_
  refine z_e1 (pc1 := 1238) (L1 := [some (.ref 0), some (.ref 4), some (.ref 19), some (.int 0)]) (S1 := [.int 0, .ref 0, .int x2, .int x1, .ref 4]) zd0_1237 rfl rfl rfl ?_
  refine z_e1 (pc1 := 1239) (L1 := [some (.ref 0), some (.ref 4), some (.ref 19), some (.int 0)]) (S1 := [.int 3, .int 0, .ref 0, .int x2, .int x1, .ref 4]) zd0_1238 rfl rfl rfl ?_
  refine z_e1 (pc1 := 1240) (L1 := [some (.ref 0), some (.ref 4), some (.ref 19), some (.int 0)]) (S1 := [.int 3, .ref 0, .int x2, .int x1, .ref 4]) zd0_1239 rfl rfl rfl ?_
  refine z_eial (y := x3) zd0_1240 h0 (by decide) g3 ?_
  refine z_e1 (pc1 := 1242) (L1 := [some (.ref 0), some (.ref 4), some (.ref 19), some (.int 0)]) (S1 := [.ref 0, .int x3, .int x2, .int x1, .ref 4]) zd0_1241 rfl rfl rfl ?_
  refine z_e1 (pc1 := 1243) (L1 := [some (.ref 0), some (.ref 4), some (.ref 19), some (.int 0)]) (S1 := [.int 0, .ref 0, .int x3, .int x2, .int x1, .ref 4]) zd0_1242 rfl rfl rfl ?_
  refine z_e1 (pc1 := 1244) (L1 := [some (.ref 0), some (.ref 4), some (.ref 19), some (.int 0)]) (S1 := [.int 4, .int 0, .ref 0, .int x3, .int x2, .int x1, .ref 4]) zd0_1243 rfl rfl rfl ?_
  refine z_e1 (pc1 := 1245) (L1 := [some (.ref 0), some (.ref 4), some (.ref 19), some (.int 0)]) (S1 := [.int 4, .ref 0, .int x3, .int x2, .int x1, .ref 4]) zd0_1244 rfl rfl rfl ?_
  refine z_eial (y := x4) zd0_1245 h0 (by decide) g4 ?_
  refine z_ecV (vs := [.ref 4, .int x1, .int x2, .int x3, .int x4]) (r := []) (L2 := [some (.ref 4), some (.int x1), some (.int x2), some (.int x3), some (.int x4), none, none]) zd0_1246 zcV0_119 (Or.inl rfl) rfl b4 (by decide) rfl rfl rfl (Nat.le_of_ble_eq_true rfl) zm129 (Nat.le_of_ble_eq_true rfl) rfl ?_
  refine z_e1 (pc1 := 1) (L1 := [some (.ref 4), some (.int x1), some (.int x2), some (.int x3), some (.int x4), none, none]) (S1 := [.ref 4]) zd129_0 rfl rfl rfl ?_
  refine z_e1 (pc1 := 2) (L1 := [some (.ref 4), some (.int x1), some (.int x2), some (.int x3), some (.int x4), none, none]) (S1 := [.int x1, .ref 4]) zd129_1 rfl rfl rfl ?_
  refine z_ecV (vs := [.ref 4, .int x1]) (r := []) (L2 := [some (.ref 4), some (.int x1)]) zd129_2 zcV129_221 (Or.inl rfl) rfl b4 (by decide) rfl rfl rfl (Nat.le_of_ble_eq_true rfl) zm84 (Nat.le_of_ble_eq_true rfl) rfl ?_
  refine z_e1 (pc1 := 1) (L1 := [some (.ref 4), some (.int x1)]) (S1 := [.int x1]) zd84_0 rfl rfl rfl ?_
  by_cases e1 : x1.toInt < 0
  · refine z_ez (t := 12) (t2 := 12) zd84_1 rfl (z_b_ltx1 (k := 0) (by decide) e1) ?_
    refine z_e1 (pc1 := 13) (L1 := [some (.ref 4), some (.int x1)]) (S1 := [.null]) zd84_12 rfl rfl rfl ?_
    refine z_e1 (pc1 := 22) (L1 := [some (.ref 4), some (.int x1)]) (S1 := [.null]) zd84_13 rfl rfl rfl ?_
    refine z_ern zd84_22 zr84 ?_
    show z_ev _ 129 5 [some (.ref 4), some (.int x1), some (.int x2), some (.int x3), some (.int x4), none, none] [.null] _ _
    refine z_e1 (pc1 := 7) (L1 := [some (.ref 4), some (.int x1), some (.int x2), some (.int x3), some (.int x4), some (.null), none]) (S1 := []) zd129_5 rfl rfl rfl ?_
    refine z_e1 (pc1 := 9) (L1 := [some (.ref 4), some (.int x1), some (.int x2), some (.int x3), some (.int x4), some (.null), none]) (S1 := [.null]) zd129_7 rfl rfl rfl ?_
    refine z_e1 (pc1 := 23) (L1 := [some (.ref 4), some (.int x1), some (.int x2), some (.int x3), some (.int x4), some (.null), none]) (S1 := []) zd129_9 rfl rfl rfl ?_
    refine z_e1 (pc1 := 24) (L1 := [some (.ref 4), some (.int x1), some (.int x2), some (.int x3), some (.int x4), some (.null), none]) (S1 := [.int (-1)]) zd129_23 rfl rfl rfl ?_
    refine z_eri zd129_24 zr129 ?_
    show z_ev _ 0 1249 [some (.ref 0), some (.ref 4), some (.ref 19), some (.int 0)] [.int (-1)] _ _
    refine z_e1 (pc1 := 1250) (L1 := [some (.ref 0), some (.ref 4), some (.ref 19), some (.int 0)]) (S1 := [.ref 19, .int (-1)]) zd0_1249 rfl rfl rfl ?_
    refine z_e1 (pc1 := 1251) (L1 := [some (.ref 0), some (.ref 4), some (.ref 19), some (.int 0)]) (S1 := [.ref 0, .ref 19, .int (-1)]) zd0_1250 rfl rfl rfl ?_
    refine z_e1 (pc1 := 1252) (L1 := [some (.ref 0), some (.ref 4), some (.ref 19), some (.int 0)]) (S1 := [.int 0, .ref 0, .ref 19, .int (-1)]) zd0_1251 rfl rfl rfl ?_
    refine z_e1 (pc1 := 1253) (L1 := [some (.ref 0), some (.ref 4), some (.ref 19), some (.int 0)]) (S1 := [.int 1, .int 0, .ref 0, .ref 19, .int (-1)]) zd0_1252 rfl rfl rfl ?_
    refine z_e1 (pc1 := 1254) (L1 := [some (.ref 0), some (.ref 4), some (.ref 19), some (.int 0)]) (S1 := [.int 1, .ref 0, .ref 19, .int (-1)]) zd0_1253 rfl rfl rfl ?_
    refine z_eial (y := x1) zd0_1254 h0 (by decide) g1 ?_
    refine z_e1 (pc1 := 1256) (L1 := [some (.ref 0), some (.ref 4), some (.ref 19), some (.int 0)]) (S1 := [.ref 0, .int x1, .ref 19, .int (-1)]) zd0_1255 rfl rfl rfl ?_
    refine z_e1 (pc1 := 1257) (L1 := [some (.ref 0), some (.ref 4), some (.ref 19), some (.int 0)]) (S1 := [.int 0, .ref 0, .int x1, .ref 19, .int (-1)]) zd0_1256 rfl rfl rfl ?_
    refine z_e1 (pc1 := 1258) (L1 := [some (.ref 0), some (.ref 4), some (.ref 19), some (.int 0)]) (S1 := [.int 2, .int 0, .ref 0, .int x1, .ref 19, .int (-1)]) zd0_1257 rfl rfl rfl ?_
    refine z_e1 (pc1 := 1259) (L1 := [some (.ref 0), some (.ref 4), some (.ref 19), some (.int 0)]) (S1 := [.int 2, .ref 0, .int x1, .ref 19, .int (-1)]) zd0_1258 rfl rfl rfl ?_
    refine z_eial (y := x2) zd0_1259 h0 (by decide) g2 ?_
    refine z_e1 (pc1 := 1261) (L1 := [some (.ref 0), some (.ref 4), some (.ref 19), some (.int 0)]) (S1 := [.ref 0, .int x2, .int x1, .ref 19, .int (-1)]) zd0_1260 rfl rfl rfl ?_
    refine z_e1 (pc1 := 1262) (L1 := [some (.ref 0), some (.ref 4), some (.ref 19), some (.int 0)]) (S1 := [.int 0, .ref 0, .int x2, .int x1, .ref 19, .int (-1)]) zd0_1261 rfl rfl rfl ?_
    refine z_e1 (pc1 := 1263) (L1 := [some (.ref 0), some (.ref 4), some (.ref 19), some (.int 0)]) (S1 := [.int 3, .int 0, .ref 0, .int x2, .int x1, .ref 19, .int (-1)]) zd0_1262 rfl rfl rfl ?_
    refine z_e1 (pc1 := 1264) (L1 := [some (.ref 0), some (.ref 4), some (.ref 19), some (.int 0)]) (S1 := [.int 3, .ref 0, .int x2, .int x1, .ref 19, .int (-1)]) zd0_1263 rfl rfl rfl ?_
    refine z_eial (y := x3) zd0_1264 h0 (by decide) g3 ?_
    refine z_e1 (pc1 := 1266) (L1 := [some (.ref 0), some (.ref 4), some (.ref 19), some (.int 0)]) (S1 := [.ref 0, .int x3, .int x2, .int x1, .ref 19, .int (-1)]) zd0_1265 rfl rfl rfl ?_
    refine z_e1 (pc1 := 1267) (L1 := [some (.ref 0), some (.ref 4), some (.ref 19), some (.int 0)]) (S1 := [.int 0, .ref 0, .int x3, .int x2, .int x1, .ref 19, .int (-1)]) zd0_1266 rfl rfl rfl ?_
    refine z_e1 (pc1 := 1268) (L1 := [some (.ref 0), some (.ref 4), some (.ref 19), some (.int 0)]) (S1 := [.int 4, .int 0, .ref 0, .int x3, .int x2, .int x1, .ref 19, .int (-1)]) zd0_1267 rfl rfl rfl ?_
    refine z_e1 (pc1 := 1269) (L1 := [some (.ref 0), some (.ref 4), some (.ref 19), some (.int 0)]) (S1 := [.int 4, .ref 0, .int x3, .int x2, .int x1, .ref 19, .int (-1)]) zd0_1268 rfl rfl rfl ?_
    refine z_eial (y := x4) zd0_1269 h0 (by decide) g4 ?_
    refine z_ecV (vs := [.ref 19, .int x1, .int x2, .int x3, .int x4]) (r := [.int (-1)]) (L2 := [some (.ref 19), some (.int x1), some (.int x2), some (.int x3), some (.int x4)]) zd0_1270 zcV0_122 (Or.inl rfl) rfl b19 (by decide) rfl rfl rfl (Nat.le_of_ble_eq_true rfl) zm264 (Nat.le_of_ble_eq_true rfl) rfl ?_
    refine z_e1 (pc1 := 1) (L1 := [some (.ref 19), some (.int x1), some (.int x2), some (.int x3), some (.int x4)]) (S1 := [.ref 19]) zd264_0 rfl rfl rfl ?_
    refine z_e1 (pc1 := 2) (L1 := [some (.ref 19), some (.int x1), some (.int x2), some (.int x3), some (.int x4)]) (S1 := [.int x1, .ref 19]) zd264_1 rfl rfl rfl ?_
    refine z_ecV (vs := [.ref 19, .int x1]) (r := []) (L2 := [some (.ref 19), some (.int x1)]) zd264_2 zcV264_272 (Or.inl rfl) rfl b19 (by decide) rfl rfl rfl (Nat.le_of_ble_eq_true rfl) zm237 (Nat.le_of_ble_eq_true rfl) rfl ?_
    refine z_e1 (pc1 := 1) (L1 := [some (.ref 19), some (.int x1)]) (S1 := [.int x1]) zd237_0 rfl rfl rfl ?_
    refine z_ez (t := 16) (t2 := 16) zd237_1 rfl (z_b_ltx1 (k := 0) (by decide) (show x1.toInt < 0 from by omega)) ?_
    refine z_e1 (pc1 := 17) (L1 := [some (.ref 19), some (.int x1)]) (S1 := [.int 0]) zd237_16 rfl rfl rfl ?_
    refine z_erz zd237_17 zr237 (by decide) ?_
    show z_ev _ 264 5 [some (.ref 19), some (.int x1), some (.int x2), some (.int x3), some (.int x4)] [.int 0] _ _
    refine z_ez (t := 41) (t2 := 41) zd264_5 rfl rfl ?_
    refine z_e1 (pc1 := 42) (L1 := [some (.ref 19), some (.int x1), some (.int x2), some (.int x3), some (.int x4)]) (S1 := [.int (-1)]) zd264_41 rfl rfl rfl ?_
    refine z_eri zd264_42 zr264 ?_
    show z_ev _ 0 1273 [some (.ref 0), some (.ref 4), some (.ref 19), some (.int 0)] [.int (-1), .int (-1)] _ _
    refine z_ej (t := 1775) (t2 := 1775) zd0_1273 rfl rfl ?_
    refine z_e1 (pc1 := 1778) (L1 := [some (.ref 0), some (.ref 4), some (.ref 19), some (.int 6)]) (S1 := []) zd0_1775 rfl rfl rfl ?_
    refine z_e1 (pc1 := 18) (L1 := [some (.ref 0), some (.ref 4), some (.ref 19), some (.int 6)]) (S1 := []) zd0_1778 rfl rfl rfl ?_
    refine z_e1 (pc1 := 19) (L1 := [some (.ref 0), some (.ref 4), some (.ref 19), some (.int 6)]) (S1 := [.int 6]) zd0_18 rfl rfl rfl ?_
    refine z_e1 (pc1 := 20) (L1 := [some (.ref 0), some (.ref 4), some (.ref 19), some (.int 6)]) (S1 := [.ref 0, .int 6]) zd0_19 rfl rfl rfl ?_
    refine z_ealn (y := 6) zd0_20 h0 rfl ?_
    refine z_e1 (pc1 := 23) (L1 := [some (.ref 0), some (.ref 4), some (.ref 19), some (.int 6)]) (S1 := [.int 6, .int 6, .int 6]) zd0_21 rfl rfl rfl ?_
    refine z_e1 (pc1 := 24) (L1 := [some (.ref 0), some (.ref 4), some (.ref 19), some (.int 6)]) (S1 := [.int 0, .int 6]) zd0_23 rfl rfl rfl ?_
    refine z_ej (t := 1781) (t2 := 1781) zd0_24 rfl rfl ?_
    refine z_e1 (pc1 := 1782) (L1 := [some (.ref 0), some (.ref 4), some (.ref 19), some (.int 6)]) (S1 := [.int 1]) zd0_1781 rfl rfl rfl ?_
    refine z_erz zd0_1782 zr0 (by decide) ?_
    exact z_K1i hN hS (by decide) (by decide)
  · refine z_ez (t := 12) (t2 := 4) zd84_1 rfl (z_b_ltx0 (k := 0) (by decide) e1) ?_
    refine z_e1 (pc1 := 5) (L1 := [some (.ref 4), some (.int x1)]) (S1 := [.int x1]) zd84_4 rfl rfl rfl ?_
    refine z_e1 (pc1 := 6) (L1 := [some (.ref 4), some (.int x1)]) (S1 := [.ref 4, .int x1]) zd84_5 rfl rfl rfl ?_
    refine z_egf (fs := [.ref 5, .ref 10, .ref 11, .int 0, .ref 12, .int 0, .ref 13, .ref 14, .ref 15, .ref 16, .ref 17, .ref 18, .null]) (v := .int 0) zd84_6 zf84_188 b4 (by decide) (by decide) rfl ?_
    refine z_ej (t := 16) (t2 := 12) zd84_9 rfl (z_b_ltx0 (k := 0) (by decide) (show ¬ x1.toInt < 0 from by omega)) ?_
    refine z_e1 (pc1 := 13) (L1 := [some (.ref 4), some (.int x1)]) (S1 := [.null]) zd84_12 rfl rfl rfl ?_
    refine z_e1 (pc1 := 22) (L1 := [some (.ref 4), some (.int x1)]) (S1 := [.null]) zd84_13 rfl rfl rfl ?_
    refine z_ern zd84_22 zr84 ?_
    show z_ev _ 129 5 [some (.ref 4), some (.int x1), some (.int x2), some (.int x3), some (.int x4), none, none] [.null] _ _
    refine z_e1 (pc1 := 7) (L1 := [some (.ref 4), some (.int x1), some (.int x2), some (.int x3), some (.int x4), some (.null), none]) (S1 := []) zd129_5 rfl rfl rfl ?_
    refine z_e1 (pc1 := 9) (L1 := [some (.ref 4), some (.int x1), some (.int x2), some (.int x3), some (.int x4), some (.null), none]) (S1 := [.null]) zd129_7 rfl rfl rfl ?_
    refine z_e1 (pc1 := 23) (L1 := [some (.ref 4), some (.int x1), some (.int x2), some (.int x3), some (.int x4), some (.null), none]) (S1 := []) zd129_9 rfl rfl rfl ?_
    refine z_e1 (pc1 := 24) (L1 := [some (.ref 4), some (.int x1), some (.int x2), some (.int x3), some (.int x4), some (.null), none]) (S1 := [.int (-1)]) zd129_23 rfl rfl rfl ?_
    refine z_eri zd129_24 zr129 ?_
    show z_ev _ 0 1249 [some (.ref 0), some (.ref 4), some (.ref 19), some (.int 0)] [.int (-1)] _ _
    refine z_e1 (pc1 := 1250) (L1 := [some (.ref 0), some (.ref 4), some (.ref 19), some (.int 0)]) (S1 := [.ref 19, .int (-1)]) zd0_1249 rfl rfl rfl ?_
    refine z_e1 (pc1 := 1251) (L1 := [some (.ref 0), some (.ref 4), some (.ref 19), some (.int 0)]) (S1 := [.ref 0, .ref 19, .int (-1)]) zd0_1250 rfl rfl rfl ?_
    refine z_e1 (pc1 := 1252) (L1 := [some (.ref 0), some (.ref 4), some (.ref 19), some (.int 0)]) (S1 := [.int 0, .ref 0, .ref 19, .int (-1)]) zd0_1251 rfl rfl rfl ?_
    refine z_e1 (pc1 := 1253) (L1 := [some (.ref 0), some (.ref 4), some (.ref 19), some (.int 0)]) (S1 := [.int 1, .int 0, .ref 0, .ref 19, .int (-1)]) zd0_1252 rfl rfl rfl ?_
    refine z_e1 (pc1 := 1254) (L1 := [some (.ref 0), some (.ref 4), some (.ref 19), some (.int 0)]) (S1 := [.int 1, .ref 0, .ref 19, .int (-1)]) zd0_1253 rfl rfl rfl ?_
    refine z_eial (y := x1) zd0_1254 h0 (by decide) g1 ?_
    refine z_e1 (pc1 := 1256) (L1 := [some (.ref 0), some (.ref 4), some (.ref 19), some (.int 0)]) (S1 := [.ref 0, .int x1, .ref 19, .int (-1)]) zd0_1255 rfl rfl rfl ?_
    refine z_e1 (pc1 := 1257) (L1 := [some (.ref 0), some (.ref 4), some (.ref 19), some (.int 0)]) (S1 := [.int 0, .ref 0, .int x1, .ref 19, .int (-1)]) zd0_1256 rfl rfl rfl ?_
    refine z_e1 (pc1 := 1258) (L1 := [some (.ref 0), some (.ref 4), some (.ref 19), some (.int 0)]) (S1 := [.int 2, .int 0, .ref 0, .int x1, .ref 19, .int (-1)]) zd0_1257 rfl rfl rfl ?_
    refine z_e1 (pc1 := 1259) (L1 := [some (.ref 0), some (.ref 4), some (.ref 19), some (.int 0)]) (S1 := [.int 2, .ref 0, .int x1, .ref 19, .int (-1)]) zd0_1258 rfl rfl rfl ?_
    refine z_eial (y := x2) zd0_1259 h0 (by decide) g2 ?_
    refine z_e1 (pc1 := 1261) (L1 := [some (.ref 0), some (.ref 4), some (.ref 19), some (.int 0)]) (S1 := [.ref 0, .int x2, .int x1, .ref 19, .int (-1)]) zd0_1260 rfl rfl rfl ?_
    refine z_e1 (pc1 := 1262) (L1 := [some (.ref 0), some (.ref 4), some (.ref 19), some (.int 0)]) (S1 := [.int 0, .ref 0, .int x2, .int x1, .ref 19, .int (-1)]) zd0_1261 rfl rfl rfl ?_
    refine z_e1 (pc1 := 1263) (L1 := [some (.ref 0), some (.ref 4), some (.ref 19), some (.int 0)]) (S1 := [.int 3, .int 0, .ref 0, .int x2, .int x1, .ref 19, .int (-1)]) zd0_1262 rfl rfl rfl ?_
    refine z_e1 (pc1 := 1264) (L1 := [some (.ref 0), some (.ref 4), some (.ref 19), some (.int 0)]) (S1 := [.int 3, .ref 0, .int x2, .int x1, .ref 19, .int (-1)]) zd0_1263 rfl rfl rfl ?_
    refine z_eial (y := x3) zd0_1264 h0 (by decide) g3 ?_
    refine z_e1 (pc1 := 1266) (L1 := [some (.ref 0), some (.ref 4), some (.ref 19), some (.int 0)]) (S1 := [.ref 0, .int x3, .int x2, .int x1, .ref 19, .int (-1)]) zd0_1265 rfl rfl rfl ?_
    refine z_e1 (pc1 := 1267) (L1 := [some (.ref 0), some (.ref 4), some (.ref 19), some (.int 0)]) (S1 := [.int 0, .ref 0, .int x3, .int x2, .int x1, .ref 19, .int (-1)]) zd0_1266 rfl rfl rfl ?_
    refine z_e1 (pc1 := 1268) (L1 := [some (.ref 0), some (.ref 4), some (.ref 19), some (.int 0)]) (S1 := [.int 4, .int 0, .ref 0, .int x3, .int x2, .int x1, .ref 19, .int (-1)]) zd0_1267 rfl rfl rfl ?_
    refine z_e1 (pc1 := 1269) (L1 := [some (.ref 0), some (.ref 4), some (.ref 19), some (.int 0)]) (S1 := [.int 4, .ref 0, .int x3, .int x2, .int x1, .ref 19, .int (-1)]) zd0_1268 rfl rfl rfl ?_
    refine z_eial (y := x4) zd0_1269 h0 (by decide) g4 ?_
    refine z_ecV (vs := [.ref 19, .int x1, .int x2, .int x3, .int x4]) (r := [.int (-1)]) (L2 := [some (.ref 19), some (.int x1), some (.int x2), some (.int x3), some (.int x4)]) zd0_1270 zcV0_122 (Or.inl rfl) rfl b19 (by decide) rfl rfl rfl (Nat.le_of_ble_eq_true rfl) zm264 (Nat.le_of_ble_eq_true rfl) rfl ?_
    refine z_e1 (pc1 := 1) (L1 := [some (.ref 19), some (.int x1), some (.int x2), some (.int x3), some (.int x4)]) (S1 := [.ref 19]) zd264_0 rfl rfl rfl ?_
    refine z_e1 (pc1 := 2) (L1 := [some (.ref 19), some (.int x1), some (.int x2), some (.int x3), some (.int x4)]) (S1 := [.int x1, .ref 19]) zd264_1 rfl rfl rfl ?_
    refine z_ecV (vs := [.ref 19, .int x1]) (r := []) (L2 := [some (.ref 19), some (.int x1)]) zd264_2 zcV264_272 (Or.inl rfl) rfl b19 (by decide) rfl rfl rfl (Nat.le_of_ble_eq_true rfl) zm237 (Nat.le_of_ble_eq_true rfl) rfl ?_
    refine z_e1 (pc1 := 1) (L1 := [some (.ref 19), some (.int x1)]) (S1 := [.int x1]) zd237_0 rfl rfl rfl ?_
    refine z_ez (t := 16) (t2 := 4) zd237_1 rfl (z_b_ltx0 (k := 0) (by decide) (show ¬ x1.toInt < 0 from by omega)) ?_
    refine z_e1 (pc1 := 5) (L1 := [some (.ref 19), some (.int x1)]) (S1 := [.int x1]) zd237_4 rfl rfl rfl ?_
    refine z_e1 (pc1 := 6) (L1 := [some (.ref 19), some (.int x1)]) (S1 := [.ref 19, .int x1]) zd237_5 rfl rfl rfl ?_
    refine z_egf (fs := [.ref 20, .int 0, .ref 21, .ref 22, .ref 23, .ref 24, .ref 25, .ref 26, .ref 27, .ref 28, .ref 29, .ref 30, .ref 31, .int 0, .ref 32, .ref 33, .ref 34, .ref 35, .ref 36, .ref 37, .ref 38, .int 0, .int 0, .int 0, .int 0, .int 0, .int 0, .int 0, .int 0, .int 0, .int 0, .ref 39, .ref 40, .ref 41, .int 0, .int 0, .ref 42, .ref 43, .ref 44, .ref 45, .ref 46, .int 0, .ref 47, .int 0, .int 0, .int 0, .ref 48, .int 0, .int 0, .ref 49, .ref 50, .ref 51, .ref 52]) (v := .int 0) zd237_6 zf237_269 b19 (by decide) (by decide) rfl ?_
    refine z_ej (t := 16) (t2 := 16) zd237_9 rfl (z_b_gex0 (k := 0) (by decide) (show ¬ x1.toInt < 0 from by omega)) ?_
    refine z_e1 (pc1 := 17) (L1 := [some (.ref 19), some (.int x1)]) (S1 := [.int 0]) zd237_16 rfl rfl rfl ?_
    refine z_erz zd237_17 zr237 (by decide) ?_
    show z_ev _ 264 5 [some (.ref 19), some (.int x1), some (.int x2), some (.int x3), some (.int x4)] [.int 0] _ _
    refine z_ez (t := 41) (t2 := 41) zd264_5 rfl rfl ?_
    refine z_e1 (pc1 := 42) (L1 := [some (.ref 19), some (.int x1), some (.int x2), some (.int x3), some (.int x4)]) (S1 := [.int (-1)]) zd264_41 rfl rfl rfl ?_
    refine z_eri zd264_42 zr264 ?_
    show z_ev _ 0 1273 [some (.ref 0), some (.ref 4), some (.ref 19), some (.int 0)] [.int (-1), .int (-1)] _ _
    refine z_ej (t := 1775) (t2 := 1775) zd0_1273 rfl rfl ?_
    refine z_e1 (pc1 := 1778) (L1 := [some (.ref 0), some (.ref 4), some (.ref 19), some (.int 6)]) (S1 := []) zd0_1775 rfl rfl rfl ?_
    refine z_e1 (pc1 := 18) (L1 := [some (.ref 0), some (.ref 4), some (.ref 19), some (.int 6)]) (S1 := []) zd0_1778 rfl rfl rfl ?_
    refine z_e1 (pc1 := 19) (L1 := [some (.ref 0), some (.ref 4), some (.ref 19), some (.int 6)]) (S1 := [.int 6]) zd0_18 rfl rfl rfl ?_
    refine z_e1 (pc1 := 20) (L1 := [some (.ref 0), some (.ref 4), some (.ref 19), some (.int 6)]) (S1 := [.ref 0, .int 6]) zd0_19 rfl rfl rfl ?_
    refine z_ealn (y := 6) zd0_20 h0 rfl ?_
    refine z_e1 (pc1 := 23) (L1 := [some (.ref 0), some (.ref 4), some (.ref 19), some (.int 6)]) (S1 := [.int 6, .int 6, .int 6]) zd0_21 rfl rfl rfl ?_
    refine z_e1 (pc1 := 24) (L1 := [some (.ref 0), some (.ref 4), some (.ref 19), some (.int 6)]) (S1 := [.int 0, .int 6]) zd0_23 rfl rfl rfl ?_
    refine z_ej (t := 1781) (t2 := 1781) zd0_24 rfl rfl ?_
    refine z_e1 (pc1 := 1782) (L1 := [some (.ref 0), some (.ref 4), some (.ref 19), some (.int 6)]) (S1 := [.int 1]) zd0_1781 rfl rfl rfl ?_
    refine z_erz zd0_1782 zr0 (by decide) ?_
    exact z_K1i hN hS (by decide) (by decide)
theorem z_C26 {M : zH} {xs : Nat → Int32} {x1 x2 x3 x4 x5 : Int32} (h0 : M[0]? = some (.inl (0, 6, .inl xs))) (hN : M.length = 53) (hS : z_sz M ≤ 50000) (hB : z_fr M 4 53) (g1 : xs 1 = x1) (g2 : xs 2 = x2) (g3 : xs 3 = x3) (g4 : xs 4 = x4) (g5 : xs 5 = x5) : z_ev 2047 0 1278 [some (.ref 0), some (.ref 4), some (.ref 19), some (.int 0)] [] M z_K1 := by
  have b4 := z_qO (hB 4 (by decide) (by decide))
  have b19 := z_qO (hB 19 (by decide) (by decide))
  refine z_e1 (pc1 := 1279) (L1 := [some (.ref 0), some (.ref 4), some (.ref 19), some (.int 0)]) (S1 := [.ref 4]) zd0_1278 rfl rfl rfl ?_
  refine z_e1 (pc1 := 1280) (L1 := [some (.ref 0), some (.ref 4), some (.ref 19), some (.int 0)]) (S1 := [.ref 0, .ref 4]) zd0_1279 rfl rfl rfl ?_
  refine z_e1 (pc1 := 1281) (L1 := [some (.ref 0), some (.ref 4), some (.ref 19), some (.int 0)]) (S1 := [.int 0, .ref 0, .ref 4]) zd0_1280 rfl rfl rfl ?_
  refine z_e1 (pc1 := 1282) (L1 := [some (.ref 0), some (.ref 4), some (.ref 19), some (.int 0)]) (S1 := [.int 1, .int 0, .ref 0, .ref 4]) zd0_1281 rfl rfl rfl ?_
  refine z_e1 (pc1 := 1283) (L1 := [some (.ref 0), some (.ref 4), some (.ref 19), some (.int 0)]) (S1 := [.int 1, .ref 0, .ref 4]) zd0_1282 rfl rfl rfl ?_
  refine z_eial (y := x1) zd0_1283 h0 (by decide) g1 ?_
  refine z_e1 (pc1 := 1285) (L1 := [some (.ref 0), some (.ref 4), some (.ref 19), some (.int 0)]) (S1 := [.ref 0, .int x1, .ref 4]) zd0_1284 rfl rfl rfl ?_
  refine z_e1 (pc1 := 1286) (L1 := [some (.ref 0), some (.ref 4), some (.ref 19), some (.int 0)]) (S1 := [.int 0, .ref 0, .int x1, .ref 4]) zd0_1285 rfl rfl rfl ?_
  refine z_e1 (pc1 := 1287) (L1 := [some (.ref 0), some (.ref 4), some (.ref 19), some (.int 0)]) (S1 := [.int 2, .int 0, .ref 0, .int x1, .ref 4]) zd0_1286 rfl rfl rfl ?_
  refine z_e1 (pc1 := 1288) (L1 := [some (.ref 0), some (.ref 4), some (.ref 19), some (.int 0)]) (S1 := [.int 2, .ref 0, .int x1, .ref 4]) zd0_1287 rfl rfl rfl ?_
  refine z_eial (y := x2) zd0_1288 h0 (by decide) g2 ?_
  refine z_e1 (pc1 := 1290) (L1 := [some (.ref 0), some (.ref 4), some (.ref 19), some (.int 0)]) (S1 := [.ref 0, .int x2, .int x1, .ref 4]) zd0_1289 rfl rfl rfl ?_
  refine z_e1 (pc1 := 1291) (L1 := [some (.ref 0), some (.ref 4), some (.ref 19), some (.int 0)]) (S1 := [.int 0, .ref 0, .int x2, .int x1, .ref 4]) zd0_1290 rfl rfl rfl ?_
  refine z_e1 (pc1 := 1292) (L1 := [some (.ref 0), some (.ref 4), some (.ref 19), some (.int 0)]) (S1 := [.int 3, .int 0, .ref 0, .int x2, .int x1, .ref 4]) zd0_1291 rfl rfl rfl ?_
  refine z_e1 (pc1 := 1293) (L1 := [some (.ref 0), some (.ref 4), some (.ref 19), some (.int 0)]) (S1 := [.int 3, .ref 0, .int x2, .int x1, .ref 4]) zd0_1292 rfl rfl rfl ?_
  refine z_eial (y := x3) zd0_1293 h0 (by decide) g3 ?_
  refine z_ecV (vs := [.ref 4, .int x1, .int x2, .int x3]) (r := []) (L2 := [some (.ref 4), some (.int x1), some (.int x2), some (.int x3), none, none]) zd0_1294 zcV0_123 (Or.inl rfl) rfl b4 (by decide) rfl rfl rfl (Nat.le_of_ble_eq_true rfl) zm144 (Nat.le_of_ble_eq_true rfl) rfl ?_
  refine z_e1 (pc1 := 1) (L1 := [some (.ref 4), some (.int x1), some (.int x2), some (.int x3), none, none]) (S1 := [.int x3]) zd144_0 rfl rfl rfl ?_
  refine z_e1 (pc1 := 2) (L1 := [some (.ref 4), some (.int x1), some (.int x2), some (.int x3), none, none]) (S1 := [.int 1, .int x3]) zd144_1 rfl rfl rfl ?_
  by_cases e1 : x3.toInt < 1
  · refine z_ej (t := 11) (t2 := 11) zd144_2 rfl (z_b_ltx1 (k := 1) (by decide) e1) ?_
    refine z_e1 (pc1 := 12) (L1 := [some (.ref 4), some (.int x1), some (.int x2), some (.int x3), none, none]) (S1 := [.int (-1)]) zd144_11 rfl rfl rfl ?_
    refine z_eri zd144_12 zr144 ?_
    show z_ev _ 0 1297 [some (.ref 0), some (.ref 4), some (.ref 19), some (.int 0)] [.int (-1)] _ _
    refine z_e1 (pc1 := 1298) (L1 := [some (.ref 0), some (.ref 4), some (.ref 19), some (.int 0)]) (S1 := [.ref 19, .int (-1)]) zd0_1297 rfl rfl rfl ?_
    refine z_e1 (pc1 := 1299) (L1 := [some (.ref 0), some (.ref 4), some (.ref 19), some (.int 0)]) (S1 := [.ref 0, .ref 19, .int (-1)]) zd0_1298 rfl rfl rfl ?_
    refine z_e1 (pc1 := 1300) (L1 := [some (.ref 0), some (.ref 4), some (.ref 19), some (.int 0)]) (S1 := [.int 0, .ref 0, .ref 19, .int (-1)]) zd0_1299 rfl rfl rfl ?_
    refine z_e1 (pc1 := 1301) (L1 := [some (.ref 0), some (.ref 4), some (.ref 19), some (.int 0)]) (S1 := [.int 1, .int 0, .ref 0, .ref 19, .int (-1)]) zd0_1300 rfl rfl rfl ?_
    refine z_e1 (pc1 := 1302) (L1 := [some (.ref 0), some (.ref 4), some (.ref 19), some (.int 0)]) (S1 := [.int 1, .ref 0, .ref 19, .int (-1)]) zd0_1301 rfl rfl rfl ?_
    refine z_eial (y := x1) zd0_1302 h0 (by decide) g1 ?_
    refine z_e1 (pc1 := 1304) (L1 := [some (.ref 0), some (.ref 4), some (.ref 19), some (.int 0)]) (S1 := [.ref 0, .int x1, .ref 19, .int (-1)]) zd0_1303 rfl rfl rfl ?_
    refine z_e1 (pc1 := 1305) (L1 := [some (.ref 0), some (.ref 4), some (.ref 19), some (.int 0)]) (S1 := [.int 0, .ref 0, .int x1, .ref 19, .int (-1)]) zd0_1304 rfl rfl rfl ?_
    refine z_e1 (pc1 := 1306) (L1 := [some (.ref 0), some (.ref 4), some (.ref 19), some (.int 0)]) (S1 := [.int 2, .int 0, .ref 0, .int x1, .ref 19, .int (-1)]) zd0_1305 rfl rfl rfl ?_
    refine z_e1 (pc1 := 1307) (L1 := [some (.ref 0), some (.ref 4), some (.ref 19), some (.int 0)]) (S1 := [.int 2, .ref 0, .int x1, .ref 19, .int (-1)]) zd0_1306 rfl rfl rfl ?_
    refine z_eial (y := x2) zd0_1307 h0 (by decide) g2 ?_
    refine z_e1 (pc1 := 1309) (L1 := [some (.ref 0), some (.ref 4), some (.ref 19), some (.int 0)]) (S1 := [.ref 0, .int x2, .int x1, .ref 19, .int (-1)]) zd0_1308 rfl rfl rfl ?_
    refine z_e1 (pc1 := 1310) (L1 := [some (.ref 0), some (.ref 4), some (.ref 19), some (.int 0)]) (S1 := [.int 0, .ref 0, .int x2, .int x1, .ref 19, .int (-1)]) zd0_1309 rfl rfl rfl ?_
    refine z_e1 (pc1 := 1311) (L1 := [some (.ref 0), some (.ref 4), some (.ref 19), some (.int 0)]) (S1 := [.int 3, .int 0, .ref 0, .int x2, .int x1, .ref 19, .int (-1)]) zd0_1310 rfl rfl rfl ?_
    refine z_e1 (pc1 := 1312) (L1 := [some (.ref 0), some (.ref 4), some (.ref 19), some (.int 0)]) (S1 := [.int 3, .ref 0, .int x2, .int x1, .ref 19, .int (-1)]) zd0_1311 rfl rfl rfl ?_
    refine z_eial (y := x3) zd0_1312 h0 (by decide) g3 ?_
    refine z_ecV (vs := [.ref 19, .int x1, .int x2, .int x3]) (r := [.int (-1)]) (L2 := [some (.ref 19), some (.int x1), some (.int x2), some (.int x3), none, none, none]) zd0_1313 zcV0_126 (Or.inl rfl) rfl b19 (by decide) rfl rfl rfl (Nat.le_of_ble_eq_true rfl) zm271 (Nat.le_of_ble_eq_true rfl) rfl ?_
    refine z_e1 (pc1 := 1) (L1 := [some (.ref 19), some (.int x1), some (.int x2), some (.int x3), none, none, none]) (S1 := [.ref 19]) zd271_0 rfl rfl rfl ?_
    refine z_e1 (pc1 := 2) (L1 := [some (.ref 19), some (.int x1), some (.int x2), some (.int x3), none, none, none]) (S1 := [.int x1, .ref 19]) zd271_1 rfl rfl rfl ?_
    refine z_ecV (vs := [.ref 19, .int x1]) (r := []) (L2 := [some (.ref 19), some (.int x1)]) zd271_2 zcV271_209 (Or.inl rfl) rfl b19 (by decide) rfl rfl rfl (Nat.le_of_ble_eq_true rfl) zm209 (Nat.le_of_ble_eq_true rfl) rfl ?_
    refine z_e1 (pc1 := 1) (L1 := [some (.ref 19), some (.int x1)]) (S1 := [.int x1]) zd209_0 rfl rfl rfl ?_
    by_cases e2 : x1.toInt < 0
    · refine z_ez (t := 16) (t2 := 16) zd209_1 rfl (z_b_ltx1 (k := 0) (by decide) e2) ?_
      refine z_e1 (pc1 := 17) (L1 := [some (.ref 19), some (.int x1)]) (S1 := [.int 0]) zd209_16 rfl rfl rfl ?_
      refine z_erz zd209_17 zr209 (by decide) ?_
      show z_ev _ 271 5 [some (.ref 19), some (.int x1), some (.int x2), some (.int x3), none, none, none] [.int 0] _ _
      refine z_ez (t := 32) (t2 := 32) zd271_5 rfl rfl ?_
      refine z_e1 (pc1 := 33) (L1 := [some (.ref 19), some (.int x1), some (.int x2), some (.int x3), none, none, none]) (S1 := [.int (-1)]) zd271_32 rfl rfl rfl ?_
      refine z_eri zd271_33 zr271 ?_
      show z_ev _ 0 1316 [some (.ref 0), some (.ref 4), some (.ref 19), some (.int 0)] [.int (-1), .int (-1)] _ _
      refine z_ej (t := 1775) (t2 := 1775) zd0_1316 rfl rfl ?_
      refine z_e1 (pc1 := 1778) (L1 := [some (.ref 0), some (.ref 4), some (.ref 19), some (.int 6)]) (S1 := []) zd0_1775 rfl rfl rfl ?_
      refine z_e1 (pc1 := 18) (L1 := [some (.ref 0), some (.ref 4), some (.ref 19), some (.int 6)]) (S1 := []) zd0_1778 rfl rfl rfl ?_
      refine z_e1 (pc1 := 19) (L1 := [some (.ref 0), some (.ref 4), some (.ref 19), some (.int 6)]) (S1 := [.int 6]) zd0_18 rfl rfl rfl ?_
      refine z_e1 (pc1 := 20) (L1 := [some (.ref 0), some (.ref 4), some (.ref 19), some (.int 6)]) (S1 := [.ref 0, .int 6]) zd0_19 rfl rfl rfl ?_
      refine z_ealn (y := 6) zd0_20 h0 rfl ?_
      refine z_e1 (pc1 := 23) (L1 := [some (.ref 0), some (.ref 4), some (.ref 19), some (.int 6)]) (S1 := [.int 6, .int 6, .int 6]) zd0_21 rfl rfl rfl ?_
      refine z_e1 (pc1 := 24) (L1 := [some (.ref 0), some (.ref 4), some (.ref 19), some (.int 6)]) (S1 := [.int 0, .int 6]) zd0_23 rfl rfl rfl ?_
      refine z_ej (t := 1781) (t2 := 1781) zd0_24 rfl rfl ?_
      refine z_e1 (pc1 := 1782) (L1 := [some (.ref 0), some (.ref 4), some (.ref 19), some (.int 6)]) (S1 := [.int 1]) zd0_1781 rfl rfl rfl ?_
      refine z_erz zd0_1782 zr0 (by decide) ?_
      exact z_K1i hN hS (by decide) (by decide)
    · refine z_ez (t := 16) (t2 := 4) zd209_1 rfl (z_b_ltx0 (k := 0) (by decide) e2) ?_
      refine z_e1 (pc1 := 5) (L1 := [some (.ref 19), some (.int x1)]) (S1 := [.int x1]) zd209_4 rfl rfl rfl ?_
      refine z_e1 (pc1 := 6) (L1 := [some (.ref 19), some (.int x1)]) (S1 := [.ref 19, .int x1]) zd209_5 rfl rfl rfl ?_
      refine z_egf (fs := [.ref 20, .int 0, .ref 21, .ref 22, .ref 23, .ref 24, .ref 25, .ref 26, .ref 27, .ref 28, .ref 29, .ref 30, .ref 31, .int 0, .ref 32, .ref 33, .ref 34, .ref 35, .ref 36, .ref 37, .ref 38, .int 0, .int 0, .int 0, .int 0, .int 0, .int 0, .int 0, .int 0, .int 0, .int 0, .ref 39, .ref 40, .ref 41, .int 0, .int 0, .ref 42, .ref 43, .ref 44, .ref 45, .ref 46, .int 0, .ref 47, .int 0, .int 0, .int 0, .ref 48, .int 0, .int 0, .ref 49, .ref 50, .ref 51, .ref 52]) (v := .int 0) zd209_6 zf209_110 b19 (by decide) (by decide) rfl ?_
      refine z_ej (t := 16) (t2 := 16) zd209_9 rfl (z_b_gex0 (k := 0) (by decide) (show ¬ x1.toInt < 0 from by omega)) ?_
      refine z_e1 (pc1 := 17) (L1 := [some (.ref 19), some (.int x1)]) (S1 := [.int 0]) zd209_16 rfl rfl rfl ?_
      refine z_erz zd209_17 zr209 (by decide) ?_
      show z_ev _ 271 5 [some (.ref 19), some (.int x1), some (.int x2), some (.int x3), none, none, none] [.int 0] _ _
      refine z_ez (t := 32) (t2 := 32) zd271_5 rfl rfl ?_
      refine z_e1 (pc1 := 33) (L1 := [some (.ref 19), some (.int x1), some (.int x2), some (.int x3), none, none, none]) (S1 := [.int (-1)]) zd271_32 rfl rfl rfl ?_
      refine z_eri zd271_33 zr271 ?_
      show z_ev _ 0 1316 [some (.ref 0), some (.ref 4), some (.ref 19), some (.int 0)] [.int (-1), .int (-1)] _ _
      refine z_ej (t := 1775) (t2 := 1775) zd0_1316 rfl rfl ?_
      refine z_e1 (pc1 := 1778) (L1 := [some (.ref 0), some (.ref 4), some (.ref 19), some (.int 6)]) (S1 := []) zd0_1775 rfl rfl rfl ?_
      refine z_e1 (pc1 := 18) (L1 := [some (.ref 0), some (.ref 4), some (.ref 19), some (.int 6)]) (S1 := []) zd0_1778 rfl rfl rfl ?_
      refine z_e1 (pc1 := 19) (L1 := [some (.ref 0), some (.ref 4), some (.ref 19), some (.int 6)]) (S1 := [.int 6]) zd0_18 rfl rfl rfl ?_
      refine z_e1 (pc1 := 20) (L1 := [some (.ref 0), some (.ref 4), some (.ref 19), some (.int 6)]) (S1 := [.ref 0, .int 6]) zd0_19 rfl rfl rfl ?_
      refine z_ealn (y := 6) zd0_20 h0 rfl ?_
      refine z_e1 (pc1 := 23) (L1 := [some (.ref 0), some (.ref 4), some (.ref 19), some (.int 6)]) (S1 := [.int 6, .int 6, .int 6]) zd0_21 rfl rfl rfl ?_
      refine z_e1 (pc1 := 24) (L1 := [some (.ref 0), some (.ref 4), some (.ref 19), some (.int 6)]) (S1 := [.int 0, .int 6]) zd0_23 rfl rfl rfl ?_
      refine z_ej (t := 1781) (t2 := 1781) zd0_24 rfl rfl ?_
      refine z_e1 (pc1 := 1782) (L1 := [some (.ref 0), some (.ref 4), some (.ref 19), some (.int 6)]) (S1 := [.int 1]) zd0_1781 rfl rfl rfl ?_
      refine z_erz zd0_1782 zr0 (by decide) ?_
      exact z_K1i hN hS (by decide) (by decide)
  · refine z_ej (t := 11) (t2 := 5) zd144_2 rfl (z_b_ltx0 (k := 1) (by decide) e1) ?_
    refine z_e1 (pc1 := 6) (L1 := [some (.ref 4), some (.int x1), some (.int x2), some (.int x3), none, none]) (S1 := [.int x3]) zd144_5 rfl rfl rfl ?_
    refine z_e1 (pc1 := 8) (L1 := [some (.ref 4), some (.int x1), some (.int x2), some (.int x3), none, none]) (S1 := [.int 31, .int x3]) zd144_6 rfl rfl rfl ?_
    by_cases e3 : 31 < x3.toInt
    · refine z_ej (t := 13) (t2 := 11) zd144_8 rfl (z_b_lex1 (k := 31) (by decide) e3) ?_
      refine z_e1 (pc1 := 12) (L1 := [some (.ref 4), some (.int x1), some (.int x2), some (.int x3), none, none]) (S1 := [.int (-1)]) zd144_11 rfl rfl rfl ?_
      refine z_eri zd144_12 zr144 ?_
      show z_ev _ 0 1297 [some (.ref 0), some (.ref 4), some (.ref 19), some (.int 0)] [.int (-1)] _ _
      refine z_e1 (pc1 := 1298) (L1 := [some (.ref 0), some (.ref 4), some (.ref 19), some (.int 0)]) (S1 := [.ref 19, .int (-1)]) zd0_1297 rfl rfl rfl ?_
      refine z_e1 (pc1 := 1299) (L1 := [some (.ref 0), some (.ref 4), some (.ref 19), some (.int 0)]) (S1 := [.ref 0, .ref 19, .int (-1)]) zd0_1298 rfl rfl rfl ?_
      refine z_e1 (pc1 := 1300) (L1 := [some (.ref 0), some (.ref 4), some (.ref 19), some (.int 0)]) (S1 := [.int 0, .ref 0, .ref 19, .int (-1)]) zd0_1299 rfl rfl rfl ?_
      refine z_e1 (pc1 := 1301) (L1 := [some (.ref 0), some (.ref 4), some (.ref 19), some (.int 0)]) (S1 := [.int 1, .int 0, .ref 0, .ref 19, .int (-1)]) zd0_1300 rfl rfl rfl ?_
      refine z_e1 (pc1 := 1302) (L1 := [some (.ref 0), some (.ref 4), some (.ref 19), some (.int 0)]) (S1 := [.int 1, .ref 0, .ref 19, .int (-1)]) zd0_1301 rfl rfl rfl ?_
      refine z_eial (y := x1) zd0_1302 h0 (by decide) g1 ?_
      refine z_e1 (pc1 := 1304) (L1 := [some (.ref 0), some (.ref 4), some (.ref 19), some (.int 0)]) (S1 := [.ref 0, .int x1, .ref 19, .int (-1)]) zd0_1303 rfl rfl rfl ?_
      refine z_e1 (pc1 := 1305) (L1 := [some (.ref 0), some (.ref 4), some (.ref 19), some (.int 0)]) (S1 := [.int 0, .ref 0, .int x1, .ref 19, .int (-1)]) zd0_1304 rfl rfl rfl ?_
      refine z_e1 (pc1 := 1306) (L1 := [some (.ref 0), some (.ref 4), some (.ref 19), some (.int 0)]) (S1 := [.int 2, .int 0, .ref 0, .int x1, .ref 19, .int (-1)]) zd0_1305 rfl rfl rfl ?_
      refine z_e1 (pc1 := 1307) (L1 := [some (.ref 0), some (.ref 4), some (.ref 19), some (.int 0)]) (S1 := [.int 2, .ref 0, .int x1, .ref 19, .int (-1)]) zd0_1306 rfl rfl rfl ?_
      refine z_eial (y := x2) zd0_1307 h0 (by decide) g2 ?_
      refine z_e1 (pc1 := 1309) (L1 := [some (.ref 0), some (.ref 4), some (.ref 19), some (.int 0)]) (S1 := [.ref 0, .int x2, .int x1, .ref 19, .int (-1)]) zd0_1308 rfl rfl rfl ?_
      refine z_e1 (pc1 := 1310) (L1 := [some (.ref 0), some (.ref 4), some (.ref 19), some (.int 0)]) (S1 := [.int 0, .ref 0, .int x2, .int x1, .ref 19, .int (-1)]) zd0_1309 rfl rfl rfl ?_
      refine z_e1 (pc1 := 1311) (L1 := [some (.ref 0), some (.ref 4), some (.ref 19), some (.int 0)]) (S1 := [.int 3, .int 0, .ref 0, .int x2, .int x1, .ref 19, .int (-1)]) zd0_1310 rfl rfl rfl ?_
      refine z_e1 (pc1 := 1312) (L1 := [some (.ref 0), some (.ref 4), some (.ref 19), some (.int 0)]) (S1 := [.int 3, .ref 0, .int x2, .int x1, .ref 19, .int (-1)]) zd0_1311 rfl rfl rfl ?_
      refine z_eial (y := x3) zd0_1312 h0 (by decide) g3 ?_
      refine z_ecV (vs := [.ref 19, .int x1, .int x2, .int x3]) (r := [.int (-1)]) (L2 := [some (.ref 19), some (.int x1), some (.int x2), some (.int x3), none, none, none]) zd0_1313 zcV0_126 (Or.inl rfl) rfl b19 (by decide) rfl rfl rfl (Nat.le_of_ble_eq_true rfl) zm271 (Nat.le_of_ble_eq_true rfl) rfl ?_
      refine z_e1 (pc1 := 1) (L1 := [some (.ref 19), some (.int x1), some (.int x2), some (.int x3), none, none, none]) (S1 := [.ref 19]) zd271_0 rfl rfl rfl ?_
      refine z_e1 (pc1 := 2) (L1 := [some (.ref 19), some (.int x1), some (.int x2), some (.int x3), none, none, none]) (S1 := [.int x1, .ref 19]) zd271_1 rfl rfl rfl ?_
      refine z_ecV (vs := [.ref 19, .int x1]) (r := []) (L2 := [some (.ref 19), some (.int x1)]) zd271_2 zcV271_209 (Or.inl rfl) rfl b19 (by decide) rfl rfl rfl (Nat.le_of_ble_eq_true rfl) zm209 (Nat.le_of_ble_eq_true rfl) rfl ?_
      refine z_e1 (pc1 := 1) (L1 := [some (.ref 19), some (.int x1)]) (S1 := [.int x1]) zd209_0 rfl rfl rfl ?_
      by_cases e4 : x1.toInt < 0
      · refine z_ez (t := 16) (t2 := 16) zd209_1 rfl (z_b_ltx1 (k := 0) (by decide) e4) ?_
        refine z_e1 (pc1 := 17) (L1 := [some (.ref 19), some (.int x1)]) (S1 := [.int 0]) zd209_16 rfl rfl rfl ?_
        refine z_erz zd209_17 zr209 (by decide) ?_
        show z_ev _ 271 5 [some (.ref 19), some (.int x1), some (.int x2), some (.int x3), none, none, none] [.int 0] _ _
        refine z_ez (t := 32) (t2 := 32) zd271_5 rfl rfl ?_
        refine z_e1 (pc1 := 33) (L1 := [some (.ref 19), some (.int x1), some (.int x2), some (.int x3), none, none, none]) (S1 := [.int (-1)]) zd271_32 rfl rfl rfl ?_
        refine z_eri zd271_33 zr271 ?_
        show z_ev _ 0 1316 [some (.ref 0), some (.ref 4), some (.ref 19), some (.int 0)] [.int (-1), .int (-1)] _ _
        refine z_ej (t := 1775) (t2 := 1775) zd0_1316 rfl rfl ?_
        refine z_e1 (pc1 := 1778) (L1 := [some (.ref 0), some (.ref 4), some (.ref 19), some (.int 6)]) (S1 := []) zd0_1775 rfl rfl rfl ?_
        refine z_e1 (pc1 := 18) (L1 := [some (.ref 0), some (.ref 4), some (.ref 19), some (.int 6)]) (S1 := []) zd0_1778 rfl rfl rfl ?_
        refine z_e1 (pc1 := 19) (L1 := [some (.ref 0), some (.ref 4), some (.ref 19), some (.int 6)]) (S1 := [.int 6]) zd0_18 rfl rfl rfl ?_
        refine z_e1 (pc1 := 20) (L1 := [some (.ref 0), some (.ref 4), some (.ref 19), some (.int 6)]) (S1 := [.ref 0, .int 6]) zd0_19 rfl rfl rfl ?_
        refine z_ealn (y := 6) zd0_20 h0 rfl ?_
        refine z_e1 (pc1 := 23) (L1 := [some (.ref 0), some (.ref 4), some (.ref 19), some (.int 6)]) (S1 := [.int 6, .int 6, .int 6]) zd0_21 rfl rfl rfl ?_
        refine z_e1 (pc1 := 24) (L1 := [some (.ref 0), some (.ref 4), some (.ref 19), some (.int 6)]) (S1 := [.int 0, .int 6]) zd0_23 rfl rfl rfl ?_
        refine z_ej (t := 1781) (t2 := 1781) zd0_24 rfl rfl ?_
        refine z_e1 (pc1 := 1782) (L1 := [some (.ref 0), some (.ref 4), some (.ref 19), some (.int 6)]) (S1 := [.int 1]) zd0_1781 rfl rfl rfl ?_
        refine z_erz zd0_1782 zr0 (by decide) ?_
        exact z_K1i hN hS (by decide) (by decide)
      · refine z_ez (t := 16) (t2 := 4) zd209_1 rfl (z_b_ltx0 (k := 0) (by decide) e4) ?_
        refine z_e1 (pc1 := 5) (L1 := [some (.ref 19), some (.int x1)]) (S1 := [.int x1]) zd209_4 rfl rfl rfl ?_
        refine z_e1 (pc1 := 6) (L1 := [some (.ref 19), some (.int x1)]) (S1 := [.ref 19, .int x1]) zd209_5 rfl rfl rfl ?_
        refine z_egf (fs := [.ref 20, .int 0, .ref 21, .ref 22, .ref 23, .ref 24, .ref 25, .ref 26, .ref 27, .ref 28, .ref 29, .ref 30, .ref 31, .int 0, .ref 32, .ref 33, .ref 34, .ref 35, .ref 36, .ref 37, .ref 38, .int 0, .int 0, .int 0, .int 0, .int 0, .int 0, .int 0, .int 0, .int 0, .int 0, .ref 39, .ref 40, .ref 41, .int 0, .int 0, .ref 42, .ref 43, .ref 44, .ref 45, .ref 46, .int 0, .ref 47, .int 0, .int 0, .int 0, .ref 48, .int 0, .int 0, .ref 49, .ref 50, .ref 51, .ref 52]) (v := .int 0) zd209_6 zf209_110 b19 (by decide) (by decide) rfl ?_
        refine z_ej (t := 16) (t2 := 16) zd209_9 rfl (z_b_gex0 (k := 0) (by decide) (show ¬ x1.toInt < 0 from by omega)) ?_
        refine z_e1 (pc1 := 17) (L1 := [some (.ref 19), some (.int x1)]) (S1 := [.int 0]) zd209_16 rfl rfl rfl ?_
        refine z_erz zd209_17 zr209 (by decide) ?_
        show z_ev _ 271 5 [some (.ref 19), some (.int x1), some (.int x2), some (.int x3), none, none, none] [.int 0] _ _
        refine z_ez (t := 32) (t2 := 32) zd271_5 rfl rfl ?_
        refine z_e1 (pc1 := 33) (L1 := [some (.ref 19), some (.int x1), some (.int x2), some (.int x3), none, none, none]) (S1 := [.int (-1)]) zd271_32 rfl rfl rfl ?_
        refine z_eri zd271_33 zr271 ?_
        show z_ev _ 0 1316 [some (.ref 0), some (.ref 4), some (.ref 19), some (.int 0)] [.int (-1), .int (-1)] _ _
        refine z_ej (t := 1775) (t2 := 1775) zd0_1316 rfl rfl ?_
        refine z_e1 (pc1 := 1778) (L1 := [some (.ref 0), some (.ref 4), some (.ref 19), some (.int 6)]) (S1 := []) zd0_1775 rfl rfl rfl ?_
        refine z_e1 (pc1 := 18) (L1 := [some (.ref 0), some (.ref 4), some (.ref 19), some (.int 6)]) (S1 := []) zd0_1778 rfl rfl rfl ?_
        refine z_e1 (pc1 := 19) (L1 := [some (.ref 0), some (.ref 4), some (.ref 19), some (.int 6)]) (S1 := [.int 6]) zd0_18 rfl rfl rfl ?_
        refine z_e1 (pc1 := 20) (L1 := [some (.ref 0), some (.ref 4), some (.ref 19), some (.int 6)]) (S1 := [.ref 0, .int 6]) zd0_19 rfl rfl rfl ?_
        refine z_ealn (y := 6) zd0_20 h0 rfl ?_
        refine z_e1 (pc1 := 23) (L1 := [some (.ref 0), some (.ref 4), some (.ref 19), some (.int 6)]) (S1 := [.int 6, .int 6, .int 6]) zd0_21 rfl rfl rfl ?_
        refine z_e1 (pc1 := 24) (L1 := [some (.ref 0), some (.ref 4), some (.ref 19), some (.int 6)]) (S1 := [.int 0, .int 6]) zd0_23 rfl rfl rfl ?_
        refine z_ej (t := 1781) (t2 := 1781) zd0_24 rfl rfl ?_
        refine z_e1 (pc1 := 1782) (L1 := [some (.ref 0), some (.ref 4), some (.ref 19), some (.int 6)]) (S1 := [.int 1]) zd0_1781 rfl rfl rfl ?_
        refine z_erz zd0_1782 zr0 (by decide) ?_
        exact z_K1i hN hS (by decide) (by decide)
    · refine z_ej (t := 13) (t2 := 13) zd144_8 rfl (z_b_lex0 (k := 31) (by decide) e3) ?_
      refine z_e1 (pc1 := 14) (L1 := [some (.ref 4), some (.int x1), some (.int x2), some (.int x3), none, none]) (S1 := [.ref 4]) zd144_13 rfl rfl rfl ?_
      refine z_e1 (pc1 := 15) (L1 := [some (.ref 4), some (.int x1), some (.int x2), some (.int x3), none, none]) (S1 := [.int x1, .ref 4]) zd144_14 rfl rfl rfl ?_
      refine z_e1 (pc1 := 16) (L1 := [some (.ref 4), some (.int x1), some (.int x2), some (.int x3), none, none]) (S1 := [.int x2, .int x1, .ref 4]) zd144_15 rfl rfl rfl ?_
      refine z_ecV (vs := [.ref 4, .int x1, .int x2]) (r := []) (L2 := [some (.ref 4), some (.int x1), some (.int x2), none]) zd144_16 zcV144_274 (Or.inl rfl) rfl b4 (by decide) rfl rfl rfl (Nat.le_of_ble_eq_true rfl) zm130 (Nat.le_of_ble_eq_true rfl) rfl ?_
      refine z_e1 (pc1 := 1) (L1 := [some (.ref 4), some (.int x1), some (.int x2), none]) (S1 := [.ref 4]) zd130_0 rfl rfl rfl ?_
      refine z_e1 (pc1 := 2) (L1 := [some (.ref 4), some (.int x1), some (.int x2), none]) (S1 := [.int x1, .ref 4]) zd130_1 rfl rfl rfl ?_
      refine z_ecV (vs := [.ref 4, .int x1]) (r := []) (L2 := [some (.ref 4), some (.int x1)]) zd130_2 zcV130_108 (Or.inl rfl) rfl b4 (by decide) rfl rfl rfl (Nat.le_of_ble_eq_true rfl) zm37 (Nat.le_of_ble_eq_true rfl) rfl ?_
      refine z_e1 (pc1 := 1) (L1 := [some (.ref 4), some (.int x1)]) (S1 := [.int x1]) zd37_0 rfl rfl rfl ?_
      by_cases e5 : x1.toInt < 0
      · refine z_ez (t := 12) (t2 := 12) zd37_1 rfl (z_b_ltx1 (k := 0) (by decide) e5) ?_
        refine z_e1 (pc1 := 13) (L1 := [some (.ref 4), some (.int x1)]) (S1 := [.null]) zd37_12 rfl rfl rfl ?_
        refine z_e1 (pc1 := 25) (L1 := [some (.ref 4), some (.int x1)]) (S1 := [.null]) zd37_13 rfl rfl rfl ?_
        refine z_ern zd37_25 zr37 ?_
        show z_ev _ 130 5 [some (.ref 4), some (.int x1), some (.int x2), none] [.null] _ _
        refine z_e1 (pc1 := 6) (L1 := [some (.ref 4), some (.int x1), some (.int x2), some (.null)]) (S1 := []) zd130_5 rfl rfl rfl ?_
        refine z_e1 (pc1 := 7) (L1 := [some (.ref 4), some (.int x1), some (.int x2), some (.null)]) (S1 := [.null]) zd130_6 rfl rfl rfl ?_
        refine z_e1 (pc1 := 20) (L1 := [some (.ref 4), some (.int x1), some (.int x2), some (.null)]) (S1 := []) zd130_7 rfl rfl rfl ?_
        refine z_e1 (pc1 := 21) (L1 := [some (.ref 4), some (.int x1), some (.int x2), some (.null)]) (S1 := [.int (-1)]) zd130_20 rfl rfl rfl ?_
        refine z_eri zd130_21 zr130 ?_
        show z_ev _ 144 19 [some (.ref 4), some (.int x1), some (.int x2), some (.int x3), none, none] [.int (-1)] _ _
        refine z_e1 (pc1 := 21) (L1 := [some (.ref 4), some (.int x1), some (.int x2), some (.int x3), some (.int (-1)), none]) (S1 := []) zd144_19 rfl rfl rfl ?_
        refine z_e1 (pc1 := 23) (L1 := [some (.ref 4), some (.int x1), some (.int x2), some (.int x3), some (.int (-1)), none]) (S1 := [.int (-1)]) zd144_21 rfl rfl rfl ?_
        refine z_ez (t := 29) (t2 := 26) zd144_23 rfl rfl ?_
        refine z_e1 (pc1 := 28) (L1 := [some (.ref 4), some (.int x1), some (.int x2), some (.int x3), some (.int (-1)), none]) (S1 := [.int (-1)]) zd144_26 rfl rfl rfl ?_
        refine z_eri zd144_28 zr144 ?_
        show z_ev _ 0 1297 [some (.ref 0), some (.ref 4), some (.ref 19), some (.int 0)] [.int (-1)] _ _
        refine z_e1 (pc1 := 1298) (L1 := [some (.ref 0), some (.ref 4), some (.ref 19), some (.int 0)]) (S1 := [.ref 19, .int (-1)]) zd0_1297 rfl rfl rfl ?_
        refine z_e1 (pc1 := 1299) (L1 := [some (.ref 0), some (.ref 4), some (.ref 19), some (.int 0)]) (S1 := [.ref 0, .ref 19, .int (-1)]) zd0_1298 rfl rfl rfl ?_
        refine z_e1 (pc1 := 1300) (L1 := [some (.ref 0), some (.ref 4), some (.ref 19), some (.int 0)]) (S1 := [.int 0, .ref 0, .ref 19, .int (-1)]) zd0_1299 rfl rfl rfl ?_
        refine z_e1 (pc1 := 1301) (L1 := [some (.ref 0), some (.ref 4), some (.ref 19), some (.int 0)]) (S1 := [.int 1, .int 0, .ref 0, .ref 19, .int (-1)]) zd0_1300 rfl rfl rfl ?_
        refine z_e1 (pc1 := 1302) (L1 := [some (.ref 0), some (.ref 4), some (.ref 19), some (.int 0)]) (S1 := [.int 1, .ref 0, .ref 19, .int (-1)]) zd0_1301 rfl rfl rfl ?_
        refine z_eial (y := x1) zd0_1302 h0 (by decide) g1 ?_
        refine z_e1 (pc1 := 1304) (L1 := [some (.ref 0), some (.ref 4), some (.ref 19), some (.int 0)]) (S1 := [.ref 0, .int x1, .ref 19, .int (-1)]) zd0_1303 rfl rfl rfl ?_
        refine z_e1 (pc1 := 1305) (L1 := [some (.ref 0), some (.ref 4), some (.ref 19), some (.int 0)]) (S1 := [.int 0, .ref 0, .int x1, .ref 19, .int (-1)]) zd0_1304 rfl rfl rfl ?_
        refine z_e1 (pc1 := 1306) (L1 := [some (.ref 0), some (.ref 4), some (.ref 19), some (.int 0)]) (S1 := [.int 2, .int 0, .ref 0, .int x1, .ref 19, .int (-1)]) zd0_1305 rfl rfl rfl ?_
        refine z_e1 (pc1 := 1307) (L1 := [some (.ref 0), some (.ref 4), some (.ref 19), some (.int 0)]) (S1 := [.int 2, .ref 0, .int x1, .ref 19, .int (-1)]) zd0_1306 rfl rfl rfl ?_
        refine z_eial (y := x2) zd0_1307 h0 (by decide) g2 ?_
        refine z_e1 (pc1 := 1309) (L1 := [some (.ref 0), some (.ref 4), some (.ref 19), some (.int 0)]) (S1 := [.ref 0, .int x2, .int x1, .ref 19, .int (-1)]) zd0_1308 rfl rfl rfl ?_
        refine z_e1 (pc1 := 1310) (L1 := [some (.ref 0), some (.ref 4), some (.ref 19), some (.int 0)]) (S1 := [.int 0, .ref 0, .int x2, .int x1, .ref 19, .int (-1)]) zd0_1309 rfl rfl rfl ?_
        refine z_e1 (pc1 := 1311) (L1 := [some (.ref 0), some (.ref 4), some (.ref 19), some (.int 0)]) (S1 := [.int 3, .int 0, .ref 0, .int x2, .int x1, .ref 19, .int (-1)]) zd0_1310 rfl rfl rfl ?_
        refine z_e1 (pc1 := 1312) (L1 := [some (.ref 0), some (.ref 4), some (.ref 19), some (.int 0)]) (S1 := [.int 3, .ref 0, .int x2, .int x1, .ref 19, .int (-1)]) zd0_1311 rfl rfl rfl ?_
        refine z_eial (y := x3) zd0_1312 h0 (by decide) g3 ?_
        refine z_ecV (vs := [.ref 19, .int x1, .int x2, .int x3]) (r := [.int (-1)]) (L2 := [some (.ref 19), some (.int x1), some (.int x2), some (.int x3), none, none, none]) zd0_1313 zcV0_126 (Or.inl rfl) rfl b19 (by decide) rfl rfl rfl (Nat.le_of_ble_eq_true rfl) zm271 (Nat.le_of_ble_eq_true rfl) rfl ?_
        refine z_e1 (pc1 := 1) (L1 := [some (.ref 19), some (.int x1), some (.int x2), some (.int x3), none, none, none]) (S1 := [.ref 19]) zd271_0 rfl rfl rfl ?_
        refine z_e1 (pc1 := 2) (L1 := [some (.ref 19), some (.int x1), some (.int x2), some (.int x3), none, none, none]) (S1 := [.int x1, .ref 19]) zd271_1 rfl rfl rfl ?_
        refine z_ecV (vs := [.ref 19, .int x1]) (r := []) (L2 := [some (.ref 19), some (.int x1)]) zd271_2 zcV271_209 (Or.inl rfl) rfl b19 (by decide) rfl rfl rfl (Nat.le_of_ble_eq_true rfl) zm209 (Nat.le_of_ble_eq_true rfl) rfl ?_
        refine z_e1 (pc1 := 1) (L1 := [some (.ref 19), some (.int x1)]) (S1 := [.int x1]) zd209_0 rfl rfl rfl ?_
        refine z_ez (t := 16) (t2 := 16) zd209_1 rfl (z_b_ltx1 (k := 0) (by decide) (show x1.toInt < 0 from by omega)) ?_
        refine z_e1 (pc1 := 17) (L1 := [some (.ref 19), some (.int x1)]) (S1 := [.int 0]) zd209_16 rfl rfl rfl ?_
        refine z_erz zd209_17 zr209 (by decide) ?_
        show z_ev _ 271 5 [some (.ref 19), some (.int x1), some (.int x2), some (.int x3), none, none, none] [.int 0] _ _
        refine z_ez (t := 32) (t2 := 32) zd271_5 rfl rfl ?_
        refine z_e1 (pc1 := 33) (L1 := [some (.ref 19), some (.int x1), some (.int x2), some (.int x3), none, none, none]) (S1 := [.int (-1)]) zd271_32 rfl rfl rfl ?_
        refine z_eri zd271_33 zr271 ?_
        show z_ev _ 0 1316 [some (.ref 0), some (.ref 4), some (.ref 19), some (.int 0)] [.int (-1), .int (-1)] _ _
        refine z_ej (t := 1775) (t2 := 1775) zd0_1316 rfl rfl ?_
        refine z_e1 (pc1 := 1778) (L1 := [some (.ref 0), some (.ref 4), some (.ref 19), some (.int 6)]) (S1 := []) zd0_1775 rfl rfl rfl ?_
        refine z_e1 (pc1 := 18) (L1 := [some (.ref 0), some (.ref 4), some (.ref 19), some (.int 6)]) (S1 := []) zd0_1778 rfl rfl rfl ?_
        refine z_e1 (pc1 := 19) (L1 := [some (.ref 0), some (.ref 4), some (.ref 19), some (.int 6)]) (S1 := [.int 6]) zd0_18 rfl rfl rfl ?_
        refine z_e1 (pc1 := 20) (L1 := [some (.ref 0), some (.ref 4), some (.ref 19), some (.int 6)]) (S1 := [.ref 0, .int 6]) zd0_19 rfl rfl rfl ?_
        refine z_ealn (y := 6) zd0_20 h0 rfl ?_
        refine z_e1 (pc1 := 23) (L1 := [some (.ref 0), some (.ref 4), some (.ref 19), some (.int 6)]) (S1 := [.int 6, .int 6, .int 6]) zd0_21 rfl rfl rfl ?_
        refine z_e1 (pc1 := 24) (L1 := [some (.ref 0), some (.ref 4), some (.ref 19), some (.int 6)]) (S1 := [.int 0, .int 6]) zd0_23 rfl rfl rfl ?_
        refine z_ej (t := 1781) (t2 := 1781) zd0_24 rfl rfl ?_
        refine z_e1 (pc1 := 1782) (L1 := [some (.ref 0), some (.ref 4), some (.ref 19), some (.int 6)]) (S1 := [.int 1]) zd0_1781 rfl rfl rfl ?_
        refine z_erz zd0_1782 zr0 (by decide) ?_
        exact z_K1i hN hS (by decide) (by decide)
      · refine z_ez (t := 12) (t2 := 4) zd37_1 rfl (z_b_ltx0 (k := 0) (by decide) e5) ?_
        refine z_e1 (pc1 := 5) (L1 := [some (.ref 4), some (.int x1)]) (S1 := [.int x1]) zd37_4 rfl rfl rfl ?_
        refine z_e1 (pc1 := 6) (L1 := [some (.ref 4), some (.int x1)]) (S1 := [.ref 4, .int x1]) zd37_5 rfl rfl rfl ?_
        refine z_egf (fs := [.ref 5, .ref 10, .ref 11, .int 0, .ref 12, .int 0, .ref 13, .ref 14, .ref 15, .ref 16, .ref 17, .ref 18, .null]) (v := .int 0) zd37_6 zf37_59 b4 (by decide) (by decide) rfl ?_
        refine z_ej (t := 16) (t2 := 12) zd37_9 rfl (z_b_ltx0 (k := 0) (by decide) (show ¬ x1.toInt < 0 from by omega)) ?_
        refine z_e1 (pc1 := 13) (L1 := [some (.ref 4), some (.int x1)]) (S1 := [.null]) zd37_12 rfl rfl rfl ?_
        refine z_e1 (pc1 := 25) (L1 := [some (.ref 4), some (.int x1)]) (S1 := [.null]) zd37_13 rfl rfl rfl ?_
        refine z_ern zd37_25 zr37 ?_
        show z_ev _ 130 5 [some (.ref 4), some (.int x1), some (.int x2), none] [.null] _ _
        refine z_e1 (pc1 := 6) (L1 := [some (.ref 4), some (.int x1), some (.int x2), some (.null)]) (S1 := []) zd130_5 rfl rfl rfl ?_
        refine z_e1 (pc1 := 7) (L1 := [some (.ref 4), some (.int x1), some (.int x2), some (.null)]) (S1 := [.null]) zd130_6 rfl rfl rfl ?_
        refine z_e1 (pc1 := 20) (L1 := [some (.ref 4), some (.int x1), some (.int x2), some (.null)]) (S1 := []) zd130_7 rfl rfl rfl ?_
        refine z_e1 (pc1 := 21) (L1 := [some (.ref 4), some (.int x1), some (.int x2), some (.null)]) (S1 := [.int (-1)]) zd130_20 rfl rfl rfl ?_
        refine z_eri zd130_21 zr130 ?_
        show z_ev _ 144 19 [some (.ref 4), some (.int x1), some (.int x2), some (.int x3), none, none] [.int (-1)] _ _
        refine z_e1 (pc1 := 21) (L1 := [some (.ref 4), some (.int x1), some (.int x2), some (.int x3), some (.int (-1)), none]) (S1 := []) zd144_19 rfl rfl rfl ?_
        refine z_e1 (pc1 := 23) (L1 := [some (.ref 4), some (.int x1), some (.int x2), some (.int x3), some (.int (-1)), none]) (S1 := [.int (-1)]) zd144_21 rfl rfl rfl ?_
        refine z_ez (t := 29) (t2 := 26) zd144_23 rfl rfl ?_
        refine z_e1 (pc1 := 28) (L1 := [some (.ref 4), some (.int x1), some (.int x2), some (.int x3), some (.int (-1)), none]) (S1 := [.int (-1)]) zd144_26 rfl rfl rfl ?_
        refine z_eri zd144_28 zr144 ?_
        show z_ev _ 0 1297 [some (.ref 0), some (.ref 4), some (.ref 19), some (.int 0)] [.int (-1)] _ _
        refine z_e1 (pc1 := 1298) (L1 := [some (.ref 0), some (.ref 4), some (.ref 19), some (.int 0)]) (S1 := [.ref 19, .int (-1)]) zd0_1297 rfl rfl rfl ?_
        refine z_e1 (pc1 := 1299) (L1 := [some (.ref 0), some (.ref 4), some (.ref 19), some (.int 0)]) (S1 := [.ref 0, .ref 19, .int (-1)]) zd0_1298 rfl rfl rfl ?_
        refine z_e1 (pc1 := 1300) (L1 := [some (.ref 0), some (.ref 4), some (.ref 19), some (.int 0)]) (S1 := [.int 0, .ref 0, .ref 19, .int (-1)]) zd0_1299 rfl rfl rfl ?_
        refine z_e1 (pc1 := 1301) (L1 := [some (.ref 0), some (.ref 4), some (.ref 19), some (.int 0)]) (S1 := [.int 1, .int 0, .ref 0, .ref 19, .int (-1)]) zd0_1300 rfl rfl rfl ?_
        refine z_e1 (pc1 := 1302) (L1 := [some (.ref 0), some (.ref 4), some (.ref 19), some (.int 0)]) (S1 := [.int 1, .ref 0, .ref 19, .int (-1)]) zd0_1301 rfl rfl rfl ?_
        refine z_eial (y := x1) zd0_1302 h0 (by decide) g1 ?_
        refine z_e1 (pc1 := 1304) (L1 := [some (.ref 0), some (.ref 4), some (.ref 19), some (.int 0)]) (S1 := [.ref 0, .int x1, .ref 19, .int (-1)]) zd0_1303 rfl rfl rfl ?_
        refine z_e1 (pc1 := 1305) (L1 := [some (.ref 0), some (.ref 4), some (.ref 19), some (.int 0)]) (S1 := [.int 0, .ref 0, .int x1, .ref 19, .int (-1)]) zd0_1304 rfl rfl rfl ?_
        refine z_e1 (pc1 := 1306) (L1 := [some (.ref 0), some (.ref 4), some (.ref 19), some (.int 0)]) (S1 := [.int 2, .int 0, .ref 0, .int x1, .ref 19, .int (-1)]) zd0_1305 rfl rfl rfl ?_
        refine z_e1 (pc1 := 1307) (L1 := [some (.ref 0), some (.ref 4), some (.ref 19), some (.int 0)]) (S1 := [.int 2, .ref 0, .int x1, .ref 19, .int (-1)]) zd0_1306 rfl rfl rfl ?_
        refine z_eial (y := x2) zd0_1307 h0 (by decide) g2 ?_
        refine z_e1 (pc1 := 1309) (L1 := [some (.ref 0), some (.ref 4), some (.ref 19), some (.int 0)]) (S1 := [.ref 0, .int x2, .int x1, .ref 19, .int (-1)]) zd0_1308 rfl rfl rfl ?_
        refine z_e1 (pc1 := 1310) (L1 := [some (.ref 0), some (.ref 4), some (.ref 19), some (.int 0)]) (S1 := [.int 0, .ref 0, .int x2, .int x1, .ref 19, .int (-1)]) zd0_1309 rfl rfl rfl ?_
        refine z_e1 (pc1 := 1311) (L1 := [some (.ref 0), some (.ref 4), some (.ref 19), some (.int 0)]) (S1 := [.int 3, .int 0, .ref 0, .int x2, .int x1, .ref 19, .int (-1)]) zd0_1310 rfl rfl rfl ?_
        refine z_e1 (pc1 := 1312) (L1 := [some (.ref 0), some (.ref 4), some (.ref 19), some (.int 0)]) (S1 := [.int 3, .ref 0, .int x2, .int x1, .ref 19, .int (-1)]) zd0_1311 rfl rfl rfl ?_
        refine z_eial (y := x3) zd0_1312 h0 (by decide) g3 ?_
        refine z_ecV (vs := [.ref 19, .int x1, .int x2, .int x3]) (r := [.int (-1)]) (L2 := [some (.ref 19), some (.int x1), some (.int x2), some (.int x3), none, none, none]) zd0_1313 zcV0_126 (Or.inl rfl) rfl b19 (by decide) rfl rfl rfl (Nat.le_of_ble_eq_true rfl) zm271 (Nat.le_of_ble_eq_true rfl) rfl ?_
        refine z_e1 (pc1 := 1) (L1 := [some (.ref 19), some (.int x1), some (.int x2), some (.int x3), none, none, none]) (S1 := [.ref 19]) zd271_0 rfl rfl rfl ?_
        refine z_e1 (pc1 := 2) (L1 := [some (.ref 19), some (.int x1), some (.int x2), some (.int x3), none, none, none]) (S1 := [.int x1, .ref 19]) zd271_1 rfl rfl rfl ?_
        refine z_ecV (vs := [.ref 19, .int x1]) (r := []) (L2 := [some (.ref 19), some (.int x1)]) zd271_2 zcV271_209 (Or.inl rfl) rfl b19 (by decide) rfl rfl rfl (Nat.le_of_ble_eq_true rfl) zm209 (Nat.le_of_ble_eq_true rfl) rfl ?_
        refine z_e1 (pc1 := 1) (L1 := [some (.ref 19), some (.int x1)]) (S1 := [.int x1]) zd209_0 rfl rfl rfl ?_
        refine z_ez (t := 16) (t2 := 4) zd209_1 rfl (z_b_ltx0 (k := 0) (by decide) (show ¬ x1.toInt < 0 from by omega)) ?_
        refine z_e1 (pc1 := 5) (L1 := [some (.ref 19), some (.int x1)]) (S1 := [.int x1]) zd209_4 rfl rfl rfl ?_
        refine z_e1 (pc1 := 6) (L1 := [some (.ref 19), some (.int x1)]) (S1 := [.ref 19, .int x1]) zd209_5 rfl rfl rfl ?_
        refine z_egf (fs := [.ref 20, .int 0, .ref 21, .ref 22, .ref 23, .ref 24, .ref 25, .ref 26, .ref 27, .ref 28, .ref 29, .ref 30, .ref 31, .int 0, .ref 32, .ref 33, .ref 34, .ref 35, .ref 36, .ref 37, .ref 38, .int 0, .int 0, .int 0, .int 0, .int 0, .int 0, .int 0, .int 0, .int 0, .int 0, .ref 39, .ref 40, .ref 41, .int 0, .int 0, .ref 42, .ref 43, .ref 44, .ref 45, .ref 46, .int 0, .ref 47, .int 0, .int 0, .int 0, .ref 48, .int 0, .int 0, .ref 49, .ref 50, .ref 51, .ref 52]) (v := .int 0) zd209_6 zf209_110 b19 (by decide) (by decide) rfl ?_
        refine z_ej (t := 16) (t2 := 16) zd209_9 rfl (z_b_gex0 (k := 0) (by decide) (show ¬ x1.toInt < 0 from by omega)) ?_
        refine z_e1 (pc1 := 17) (L1 := [some (.ref 19), some (.int x1)]) (S1 := [.int 0]) zd209_16 rfl rfl rfl ?_
        refine z_erz zd209_17 zr209 (by decide) ?_
        show z_ev _ 271 5 [some (.ref 19), some (.int x1), some (.int x2), some (.int x3), none, none, none] [.int 0] _ _
        refine z_ez (t := 32) (t2 := 32) zd271_5 rfl rfl ?_
        refine z_e1 (pc1 := 33) (L1 := [some (.ref 19), some (.int x1), some (.int x2), some (.int x3), none, none, none]) (S1 := [.int (-1)]) zd271_32 rfl rfl rfl ?_
        refine z_eri zd271_33 zr271 ?_
        show z_ev _ 0 1316 [some (.ref 0), some (.ref 4), some (.ref 19), some (.int 0)] [.int (-1), .int (-1)] _ _
        refine z_ej (t := 1775) (t2 := 1775) zd0_1316 rfl rfl ?_
        refine z_e1 (pc1 := 1778) (L1 := [some (.ref 0), some (.ref 4), some (.ref 19), some (.int 6)]) (S1 := []) zd0_1775 rfl rfl rfl ?_
        refine z_e1 (pc1 := 18) (L1 := [some (.ref 0), some (.ref 4), some (.ref 19), some (.int 6)]) (S1 := []) zd0_1778 rfl rfl rfl ?_
        refine z_e1 (pc1 := 19) (L1 := [some (.ref 0), some (.ref 4), some (.ref 19), some (.int 6)]) (S1 := [.int 6]) zd0_18 rfl rfl rfl ?_
        refine z_e1 (pc1 := 20) (L1 := [some (.ref 0), some (.ref 4), some (.ref 19), some (.int 6)]) (S1 := [.ref 0, .int 6]) zd0_19 rfl rfl rfl ?_
        refine z_ealn (y := 6) zd0_20 h0 rfl ?_
        refine z_e1 (pc1 := 23) (L1 := [some (.ref 0), some (.ref 4), some (.ref 19), some (.int 6)]) (S1 := [.int 6, .int 6, .int 6]) zd0_21 rfl rfl rfl ?_
        refine z_e1 (pc1 := 24) (L1 := [some (.ref 0), some (.ref 4), some (.ref 19), some (.int 6)]) (S1 := [.int 0, .int 6]) zd0_23 rfl rfl rfl ?_
        refine z_ej (t := 1781) (t2 := 1781) zd0_24 rfl rfl ?_
        refine z_e1 (pc1 := 1782) (L1 := [some (.ref 0), some (.ref 4), some (.ref 19), some (.int 6)]) (S1 := [.int 1]) zd0_1781 rfl rfl rfl ?_
        refine z_erz zd0_1782 zr0 (by decide) ?_
        exact z_K1i hN hS (by decide) (by decide)
theorem z_C27 {M : zH} {xs : Nat → Int32} {x1 x2 x3 x4 x5 : Int32} (h0 : M[0]? = some (.inl (0, 6, .inl xs))) (hN : M.length = 53) (hS : z_sz M ≤ 50000) (hB : z_fr M 4 53) (g1 : xs 1 = x1) (g2 : xs 2 = x2) (g3 : xs 3 = x3) (g4 : xs 4 = x4) (g5 : xs 5 = x5) : z_ev 2047 0 1321 [some (.ref 0), some (.ref 4), some (.ref 19), some (.int 0)] [] M z_K1 := by
  have b4 := z_qO (hB 4 (by decide) (by decide))
  have b19 := z_qO (hB 19 (by decide) (by decide))
  refine z_e1 (pc1 := 1322) (L1 := [some (.ref 0), some (.ref 4), some (.ref 19), some (.int 0)]) (S1 := [.ref 4]) zd0_1321 rfl rfl rfl ?_
  refine z_e1 (pc1 := 1323) (L1 := [some (.ref 0), some (.ref 4), some (.ref 19), some (.int 0)]) (S1 := [.ref 0, .ref 4]) zd0_1322 rfl rfl rfl ?_
  refine z_e1 (pc1 := 1324) (L1 := [some (.ref 0), some (.ref 4), some (.ref 19), some (.int 0)]) (S1 := [.int 0, .ref 0, .ref 4]) zd0_1323 rfl rfl rfl ?_
  refine z_e1 (pc1 := 1325) (L1 := [some (.ref 0), some (.ref 4), some (.ref 19), some (.int 0)]) (S1 := [.int 1, .int 0, .ref 0, .ref 4]) zd0_1324 rfl rfl rfl ?_
  refine z_e1 (pc1 := 1326) (L1 := [some (.ref 0), some (.ref 4), some (.ref 19), some (.int 0)]) (S1 := [.int 1, .ref 0, .ref 4]) zd0_1325 rfl rfl rfl ?_
  refine z_eial (y := x1) zd0_1326 h0 (by decide) g1 ?_
  refine z_e1 (pc1 := 1328) (L1 := [some (.ref 0), some (.ref 4), some (.ref 19), some (.int 0)]) (S1 := [.ref 0, .int x1, .ref 4]) zd0_1327 rfl rfl rfl ?_
  refine z_e1 (pc1 := 1329) (L1 := [some (.ref 0), some (.ref 4), some (.ref 19), some (.int 0)]) (S1 := [.int 0, .ref 0, .int x1, .ref 4]) zd0_1328 rfl rfl rfl ?_
  refine z_e1 (pc1 := 1330) (L1 := [some (.ref 0), some (.ref 4), some (.ref 19), some (.int 0)]) (S1 := [.int 2, .int 0, .ref 0, .int x1, .ref 4]) zd0_1329 rfl rfl rfl ?_
  refine z_e1 (pc1 := 1331) (L1 := [some (.ref 0), some (.ref 4), some (.ref 19), some (.int 0)]) (S1 := [.int 2, .ref 0, .int x1, .ref 4]) zd0_1330 rfl rfl rfl ?_
  refine z_eial (y := x2) zd0_1331 h0 (by decide) g2 ?_
  refine z_e1 (pc1 := 1333) (L1 := [some (.ref 0), some (.ref 4), some (.ref 19), some (.int 0)]) (S1 := [.ref 0, .int x2, .int x1, .ref 4]) zd0_1332 rfl rfl rfl ?_
  refine z_e1 (pc1 := 1334) (L1 := [some (.ref 0), some (.ref 4), some (.ref 19), some (.int 0)]) (S1 := [.int 0, .ref 0, .int x2, .int x1, .ref 4]) zd0_1333 rfl rfl rfl ?_
  refine z_e1 (pc1 := 1335) (L1 := [some (.ref 0), some (.ref 4), some (.ref 19), some (.int 0)]) (S1 := [.int 3, .int 0, .ref 0, .int x2, .int x1, .ref 4]) zd0_1334 rfl rfl rfl ?_
  refine z_e1 (pc1 := 1336) (L1 := [some (.ref 0), some (.ref 4), some (.ref 19), some (.int 0)]) (S1 := [.int 3, .ref 0, .int x2, .int x1, .ref 4]) zd0_1335 rfl rfl rfl ?_
  refine z_eial (y := x3) zd0_1336 h0 (by decide) g3 ?_
  refine z_ecV (vs := [.ref 4, .int x1, .int x2, .int x3]) (r := []) (L2 := [some (.ref 4), some (.int x1), some (.int x2), some (.int x3), none]) zd0_1337 zcV0_127 (Or.inl rfl) rfl b4 (by decide) rfl rfl rfl (Nat.le_of_ble_eq_true rfl) zm146 (Nat.le_of_ble_eq_true rfl) rfl ?_
  refine z_e1 (pc1 := 1) (L1 := [some (.ref 4), some (.int x1), some (.int x2), some (.int x3), none]) (S1 := [.ref 4]) zd146_0 rfl rfl rfl ?_
  refine z_e1 (pc1 := 2) (L1 := [some (.ref 4), some (.int x1), some (.int x2), some (.int x3), none]) (S1 := [.int x1, .ref 4]) zd146_1 rfl rfl rfl ?_
  refine z_ecV (vs := [.ref 4, .int x1]) (r := []) (L2 := [some (.ref 4), some (.int x1)]) zd146_2 zcV146_108 (Or.inl rfl) rfl b4 (by decide) rfl rfl rfl (Nat.le_of_ble_eq_true rfl) zm37 (Nat.le_of_ble_eq_true rfl) rfl ?_
  refine z_e1 (pc1 := 1) (L1 := [some (.ref 4), some (.int x1)]) (S1 := [.int x1]) zd37_0 rfl rfl rfl ?_
  by_cases e1 : x1.toInt < 0
  · refine z_ez (t := 12) (t2 := 12) zd37_1 rfl (z_b_ltx1 (k := 0) (by decide) e1) ?_
    refine z_e1 (pc1 := 13) (L1 := [some (.ref 4), some (.int x1)]) (S1 := [.null]) zd37_12 rfl rfl rfl ?_
    refine z_e1 (pc1 := 25) (L1 := [some (.ref 4), some (.int x1)]) (S1 := [.null]) zd37_13 rfl rfl rfl ?_
    refine z_ern zd37_25 zr37 ?_
    show z_ev _ 146 5 [some (.ref 4), some (.int x1), some (.int x2), some (.int x3), none] [.null] _ _
    refine z_e1 (pc1 := 7) (L1 := [some (.ref 4), some (.int x1), some (.int x2), some (.int x3), some (.null)]) (S1 := []) zd146_5 rfl rfl rfl ?_
    refine z_e1 (pc1 := 9) (L1 := [some (.ref 4), some (.int x1), some (.int x2), some (.int x3), some (.null)]) (S1 := [.null]) zd146_7 rfl rfl rfl ?_
    refine z_e1 (pc1 := 31) (L1 := [some (.ref 4), some (.int x1), some (.int x2), some (.int x3), some (.null)]) (S1 := []) zd146_9 rfl rfl rfl ?_
    refine z_e1 (pc1 := 32) (L1 := [some (.ref 4), some (.int x1), some (.int x2), some (.int x3), some (.null)]) (S1 := [.int (-1)]) zd146_31 rfl rfl rfl ?_
    refine z_eri zd146_32 zr146 ?_
    show z_ev _ 0 1340 [some (.ref 0), some (.ref 4), some (.ref 19), some (.int 0)] [.int (-1)] _ _
    refine z_e1 (pc1 := 1341) (L1 := [some (.ref 0), some (.ref 4), some (.ref 19), some (.int 0)]) (S1 := [.ref 19, .int (-1)]) zd0_1340 rfl rfl rfl ?_
    refine z_e1 (pc1 := 1342) (L1 := [some (.ref 0), some (.ref 4), some (.ref 19), some (.int 0)]) (S1 := [.ref 0, .ref 19, .int (-1)]) zd0_1341 rfl rfl rfl ?_
    refine z_e1 (pc1 := 1343) (L1 := [some (.ref 0), some (.ref 4), some (.ref 19), some (.int 0)]) (S1 := [.int 0, .ref 0, .ref 19, .int (-1)]) zd0_1342 rfl rfl rfl ?_
    refine z_e1 (pc1 := 1344) (L1 := [some (.ref 0), some (.ref 4), some (.ref 19), some (.int 0)]) (S1 := [.int 1, .int 0, .ref 0, .ref 19, .int (-1)]) zd0_1343 rfl rfl rfl ?_
    refine z_e1 (pc1 := 1345) (L1 := [some (.ref 0), some (.ref 4), some (.ref 19), some (.int 0)]) (S1 := [.int 1, .ref 0, .ref 19, .int (-1)]) zd0_1344 rfl rfl rfl ?_
    refine z_eial (y := x1) zd0_1345 h0 (by decide) g1 ?_
    refine z_e1 (pc1 := 1347) (L1 := [some (.ref 0), some (.ref 4), some (.ref 19), some (.int 0)]) (S1 := [.ref 0, .int x1, .ref 19, .int (-1)]) zd0_1346 rfl rfl rfl ?_
    refine z_e1 (pc1 := 1348) (L1 := [some (.ref 0), some (.ref 4), some (.ref 19), some (.int 0)]) (S1 := [.int 0, .ref 0, .int x1, .ref 19, .int (-1)]) zd0_1347 rfl rfl rfl ?_
    refine z_e1 (pc1 := 1349) (L1 := [some (.ref 0), some (.ref 4), some (.ref 19), some (.int 0)]) (S1 := [.int 2, .int 0, .ref 0, .int x1, .ref 19, .int (-1)]) zd0_1348 rfl rfl rfl ?_
    refine z_e1 (pc1 := 1350) (L1 := [some (.ref 0), some (.ref 4), some (.ref 19), some (.int 0)]) (S1 := [.int 2, .ref 0, .int x1, .ref 19, .int (-1)]) zd0_1349 rfl rfl rfl ?_
    refine z_eial (y := x2) zd0_1350 h0 (by decide) g2 ?_
    refine z_e1 (pc1 := 1352) (L1 := [some (.ref 0), some (.ref 4), some (.ref 19), some (.int 0)]) (S1 := [.ref 0, .int x2, .int x1, .ref 19, .int (-1)]) zd0_1351 rfl rfl rfl ?_
    refine z_e1 (pc1 := 1353) (L1 := [some (.ref 0), some (.ref 4), some (.ref 19), some (.int 0)]) (S1 := [.int 0, .ref 0, .int x2, .int x1, .ref 19, .int (-1)]) zd0_1352 rfl rfl rfl ?_
    refine z_e1 (pc1 := 1354) (L1 := [some (.ref 0), some (.ref 4), some (.ref 19), some (.int 0)]) (S1 := [.int 3, .int 0, .ref 0, .int x2, .int x1, .ref 19, .int (-1)]) zd0_1353 rfl rfl rfl ?_
    refine z_e1 (pc1 := 1355) (L1 := [some (.ref 0), some (.ref 4), some (.ref 19), some (.int 0)]) (S1 := [.int 3, .ref 0, .int x2, .int x1, .ref 19, .int (-1)]) zd0_1354 rfl rfl rfl ?_
    refine z_eial (y := x3) zd0_1355 h0 (by decide) g3 ?_
    refine z_ecV (vs := [.ref 19, .int x1, .int x2, .int x3]) (r := [.int (-1)]) (L2 := [some (.ref 19), some (.int x1), some (.int x2), some (.int x3), none, none, none, none]) zd0_1356 zcV0_130 (Or.inl rfl) rfl b19 (by decide) rfl rfl rfl (Nat.le_of_ble_eq_true rfl) zm272 (Nat.le_of_ble_eq_true rfl) rfl ?_
    refine z_e1 (pc1 := 1) (L1 := [some (.ref 19), some (.int x1), some (.int x2), some (.int x3), none, none, none, none]) (S1 := [.ref 19]) zd272_0 rfl rfl rfl ?_
    refine z_e1 (pc1 := 2) (L1 := [some (.ref 19), some (.int x1), some (.int x2), some (.int x3), none, none, none, none]) (S1 := [.int x1, .ref 19]) zd272_1 rfl rfl rfl ?_
    refine z_ecV (vs := [.ref 19, .int x1]) (r := []) (L2 := [some (.ref 19), some (.int x1)]) zd272_2 zcV272_209 (Or.inl rfl) rfl b19 (by decide) rfl rfl rfl (Nat.le_of_ble_eq_true rfl) zm209 (Nat.le_of_ble_eq_true rfl) rfl ?_
    refine z_e1 (pc1 := 1) (L1 := [some (.ref 19), some (.int x1)]) (S1 := [.int x1]) zd209_0 rfl rfl rfl ?_
    refine z_ez (t := 16) (t2 := 16) zd209_1 rfl (z_b_ltx1 (k := 0) (by decide) (show x1.toInt < 0 from by omega)) ?_
    refine z_e1 (pc1 := 17) (L1 := [some (.ref 19), some (.int x1)]) (S1 := [.int 0]) zd209_16 rfl rfl rfl ?_
    refine z_erz zd209_17 zr209 (by decide) ?_
    show z_ev _ 272 5 [some (.ref 19), some (.int x1), some (.int x2), some (.int x3), none, none, none, none] [.int 0] _ _
    refine z_ez (t := 32) (t2 := 32) zd272_5 rfl rfl ?_
    refine z_e1 (pc1 := 33) (L1 := [some (.ref 19), some (.int x1), some (.int x2), some (.int x3), none, none, none, none]) (S1 := [.int (-1)]) zd272_32 rfl rfl rfl ?_
    refine z_eri zd272_33 zr272 ?_
    show z_ev _ 0 1359 [some (.ref 0), some (.ref 4), some (.ref 19), some (.int 0)] [.int (-1), .int (-1)] _ _
    refine z_ej (t := 1775) (t2 := 1775) zd0_1359 rfl rfl ?_
    refine z_e1 (pc1 := 1778) (L1 := [some (.ref 0), some (.ref 4), some (.ref 19), some (.int 6)]) (S1 := []) zd0_1775 rfl rfl rfl ?_
    refine z_e1 (pc1 := 18) (L1 := [some (.ref 0), some (.ref 4), some (.ref 19), some (.int 6)]) (S1 := []) zd0_1778 rfl rfl rfl ?_
    refine z_e1 (pc1 := 19) (L1 := [some (.ref 0), some (.ref 4), some (.ref 19), some (.int 6)]) (S1 := [.int 6]) zd0_18 rfl rfl rfl ?_
    refine z_e1 (pc1 := 20) (L1 := [some (.ref 0), some (.ref 4), some (.ref 19), some (.int 6)]) (S1 := [.ref 0, .int 6]) zd0_19 rfl rfl rfl ?_
    refine z_ealn (y := 6) zd0_20 h0 rfl ?_
    refine z_e1 (pc1 := 23) (L1 := [some (.ref 0), some (.ref 4), some (.ref 19), some (.int 6)]) (S1 := [.int 6, .int 6, .int 6]) zd0_21 rfl rfl rfl ?_
    refine z_e1 (pc1 := 24) (L1 := [some (.ref 0), some (.ref 4), some (.ref 19), some (.int 6)]) (S1 := [.int 0, .int 6]) zd0_23 rfl rfl rfl ?_
    refine z_ej (t := 1781) (t2 := 1781) zd0_24 rfl rfl ?_
    refine z_e1 (pc1 := 1782) (L1 := [some (.ref 0), some (.ref 4), some (.ref 19), some (.int 6)]) (S1 := [.int 1]) zd0_1781 rfl rfl rfl ?_
    refine z_erz zd0_1782 zr0 (by decide) ?_
    exact z_K1i hN hS (by decide) (by decide)
  · refine z_ez (t := 12) (t2 := 4) zd37_1 rfl (z_b_ltx0 (k := 0) (by decide) e1) ?_
    refine z_e1 (pc1 := 5) (L1 := [some (.ref 4), some (.int x1)]) (S1 := [.int x1]) zd37_4 rfl rfl rfl ?_
    refine z_e1 (pc1 := 6) (L1 := [some (.ref 4), some (.int x1)]) (S1 := [.ref 4, .int x1]) zd37_5 rfl rfl rfl ?_
    refine z_egf (fs := [.ref 5, .ref 10, .ref 11, .int 0, .ref 12, .int 0, .ref 13, .ref 14, .ref 15, .ref 16, .ref 17, .ref 18, .null]) (v := .int 0) zd37_6 zf37_59 b4 (by decide) (by decide) rfl ?_
    refine z_ej (t := 16) (t2 := 12) zd37_9 rfl (z_b_ltx0 (k := 0) (by decide) (show ¬ x1.toInt < 0 from by omega)) ?_
    refine z_e1 (pc1 := 13) (L1 := [some (.ref 4), some (.int x1)]) (S1 := [.null]) zd37_12 rfl rfl rfl ?_
    refine z_e1 (pc1 := 25) (L1 := [some (.ref 4), some (.int x1)]) (S1 := [.null]) zd37_13 rfl rfl rfl ?_
    refine z_ern zd37_25 zr37 ?_
    show z_ev _ 146 5 [some (.ref 4), some (.int x1), some (.int x2), some (.int x3), none] [.null] _ _
    refine z_e1 (pc1 := 7) (L1 := [some (.ref 4), some (.int x1), some (.int x2), some (.int x3), some (.null)]) (S1 := []) zd146_5 rfl rfl rfl ?_
    refine z_e1 (pc1 := 9) (L1 := [some (.ref 4), some (.int x1), some (.int x2), some (.int x3), some (.null)]) (S1 := [.null]) zd146_7 rfl rfl rfl ?_
    refine z_e1 (pc1 := 31) (L1 := [some (.ref 4), some (.int x1), some (.int x2), some (.int x3), some (.null)]) (S1 := []) zd146_9 rfl rfl rfl ?_
    refine z_e1 (pc1 := 32) (L1 := [some (.ref 4), some (.int x1), some (.int x2), some (.int x3), some (.null)]) (S1 := [.int (-1)]) zd146_31 rfl rfl rfl ?_
    refine z_eri zd146_32 zr146 ?_
    show z_ev _ 0 1340 [some (.ref 0), some (.ref 4), some (.ref 19), some (.int 0)] [.int (-1)] _ _
    refine z_e1 (pc1 := 1341) (L1 := [some (.ref 0), some (.ref 4), some (.ref 19), some (.int 0)]) (S1 := [.ref 19, .int (-1)]) zd0_1340 rfl rfl rfl ?_
    refine z_e1 (pc1 := 1342) (L1 := [some (.ref 0), some (.ref 4), some (.ref 19), some (.int 0)]) (S1 := [.ref 0, .ref 19, .int (-1)]) zd0_1341 rfl rfl rfl ?_
    refine z_e1 (pc1 := 1343) (L1 := [some (.ref 0), some (.ref 4), some (.ref 19), some (.int 0)]) (S1 := [.int 0, .ref 0, .ref 19, .int (-1)]) zd0_1342 rfl rfl rfl ?_
    refine z_e1 (pc1 := 1344) (L1 := [some (.ref 0), some (.ref 4), some (.ref 19), some (.int 0)]) (S1 := [.int 1, .int 0, .ref 0, .ref 19, .int (-1)]) zd0_1343 rfl rfl rfl ?_
    refine z_e1 (pc1 := 1345) (L1 := [some (.ref 0), some (.ref 4), some (.ref 19), some (.int 0)]) (S1 := [.int 1, .ref 0, .ref 19, .int (-1)]) zd0_1344 rfl rfl rfl ?_
    refine z_eial (y := x1) zd0_1345 h0 (by decide) g1 ?_
    refine z_e1 (pc1 := 1347) (L1 := [some (.ref 0), some (.ref 4), some (.ref 19), some (.int 0)]) (S1 := [.ref 0, .int x1, .ref 19, .int (-1)]) zd0_1346 rfl rfl rfl ?_
    refine z_e1 (pc1 := 1348) (L1 := [some (.ref 0), some (.ref 4), some (.ref 19), some (.int 0)]) (S1 := [.int 0, .ref 0, .int x1, .ref 19, .int (-1)]) zd0_1347 rfl rfl rfl ?_
    refine z_e1 (pc1 := 1349) (L1 := [some (.ref 0), some (.ref 4), some (.ref 19), some (.int 0)]) (S1 := [.int 2, .int 0, .ref 0, .int x1, .ref 19, .int (-1)]) zd0_1348 rfl rfl rfl ?_
    refine z_e1 (pc1 := 1350) (L1 := [some (.ref 0), some (.ref 4), some (.ref 19), some (.int 0)]) (S1 := [.int 2, .ref 0, .int x1, .ref 19, .int (-1)]) zd0_1349 rfl rfl rfl ?_
    refine z_eial (y := x2) zd0_1350 h0 (by decide) g2 ?_
    refine z_e1 (pc1 := 1352) (L1 := [some (.ref 0), some (.ref 4), some (.ref 19), some (.int 0)]) (S1 := [.ref 0, .int x2, .int x1, .ref 19, .int (-1)]) zd0_1351 rfl rfl rfl ?_
    refine z_e1 (pc1 := 1353) (L1 := [some (.ref 0), some (.ref 4), some (.ref 19), some (.int 0)]) (S1 := [.int 0, .ref 0, .int x2, .int x1, .ref 19, .int (-1)]) zd0_1352 rfl rfl rfl ?_
    refine z_e1 (pc1 := 1354) (L1 := [some (.ref 0), some (.ref 4), some (.ref 19), some (.int 0)]) (S1 := [.int 3, .int 0, .ref 0, .int x2, .int x1, .ref 19, .int (-1)]) zd0_1353 rfl rfl rfl ?_
    refine z_e1 (pc1 := 1355) (L1 := [some (.ref 0), some (.ref 4), some (.ref 19), some (.int 0)]) (S1 := [.int 3, .ref 0, .int x2, .int x1, .ref 19, .int (-1)]) zd0_1354 rfl rfl rfl ?_
    refine z_eial (y := x3) zd0_1355 h0 (by decide) g3 ?_
    refine z_ecV (vs := [.ref 19, .int x1, .int x2, .int x3]) (r := [.int (-1)]) (L2 := [some (.ref 19), some (.int x1), some (.int x2), some (.int x3), none, none, none, none]) zd0_1356 zcV0_130 (Or.inl rfl) rfl b19 (by decide) rfl rfl rfl (Nat.le_of_ble_eq_true rfl) zm272 (Nat.le_of_ble_eq_true rfl) rfl ?_
    refine z_e1 (pc1 := 1) (L1 := [some (.ref 19), some (.int x1), some (.int x2), some (.int x3), none, none, none, none]) (S1 := [.ref 19]) zd272_0 rfl rfl rfl ?_
    refine z_e1 (pc1 := 2) (L1 := [some (.ref 19), some (.int x1), some (.int x2), some (.int x3), none, none, none, none]) (S1 := [.int x1, .ref 19]) zd272_1 rfl rfl rfl ?_
    refine z_ecV (vs := [.ref 19, .int x1]) (r := []) (L2 := [some (.ref 19), some (.int x1)]) zd272_2 zcV272_209 (Or.inl rfl) rfl b19 (by decide) rfl rfl rfl (Nat.le_of_ble_eq_true rfl) zm209 (Nat.le_of_ble_eq_true rfl) rfl ?_
    refine z_e1 (pc1 := 1) (L1 := [some (.ref 19), some (.int x1)]) (S1 := [.int x1]) zd209_0 rfl rfl rfl ?_
    refine z_ez (t := 16) (t2 := 4) zd209_1 rfl (z_b_ltx0 (k := 0) (by decide) (show ¬ x1.toInt < 0 from by omega)) ?_
    refine z_e1 (pc1 := 5) (L1 := [some (.ref 19), some (.int x1)]) (S1 := [.int x1]) zd209_4 rfl rfl rfl ?_
    refine z_e1 (pc1 := 6) (L1 := [some (.ref 19), some (.int x1)]) (S1 := [.ref 19, .int x1]) zd209_5 rfl rfl rfl ?_
    refine z_egf (fs := [.ref 20, .int 0, .ref 21, .ref 22, .ref 23, .ref 24, .ref 25, .ref 26, .ref 27, .ref 28, .ref 29, .ref 30, .ref 31, .int 0, .ref 32, .ref 33, .ref 34, .ref 35, .ref 36, .ref 37, .ref 38, .int 0, .int 0, .int 0, .int 0, .int 0, .int 0, .int 0, .int 0, .int 0, .int 0, .ref 39, .ref 40, .ref 41, .int 0, .int 0, .ref 42, .ref 43, .ref 44, .ref 45, .ref 46, .int 0, .ref 47, .int 0, .int 0, .int 0, .ref 48, .int 0, .int 0, .ref 49, .ref 50, .ref 51, .ref 52]) (v := .int 0) zd209_6 zf209_110 b19 (by decide) (by decide) rfl ?_
    refine z_ej (t := 16) (t2 := 16) zd209_9 rfl (z_b_gex0 (k := 0) (by decide) (show ¬ x1.toInt < 0 from by omega)) ?_
    refine z_e1 (pc1 := 17) (L1 := [some (.ref 19), some (.int x1)]) (S1 := [.int 0]) zd209_16 rfl rfl rfl ?_
    refine z_erz zd209_17 zr209 (by decide) ?_
    show z_ev _ 272 5 [some (.ref 19), some (.int x1), some (.int x2), some (.int x3), none, none, none, none] [.int 0] _ _
    refine z_ez (t := 32) (t2 := 32) zd272_5 rfl rfl ?_
    refine z_e1 (pc1 := 33) (L1 := [some (.ref 19), some (.int x1), some (.int x2), some (.int x3), none, none, none, none]) (S1 := [.int (-1)]) zd272_32 rfl rfl rfl ?_
    refine z_eri zd272_33 zr272 ?_
    show z_ev _ 0 1359 [some (.ref 0), some (.ref 4), some (.ref 19), some (.int 0)] [.int (-1), .int (-1)] _ _
    refine z_ej (t := 1775) (t2 := 1775) zd0_1359 rfl rfl ?_
    refine z_e1 (pc1 := 1778) (L1 := [some (.ref 0), some (.ref 4), some (.ref 19), some (.int 6)]) (S1 := []) zd0_1775 rfl rfl rfl ?_
    refine z_e1 (pc1 := 18) (L1 := [some (.ref 0), some (.ref 4), some (.ref 19), some (.int 6)]) (S1 := []) zd0_1778 rfl rfl rfl ?_
    refine z_e1 (pc1 := 19) (L1 := [some (.ref 0), some (.ref 4), some (.ref 19), some (.int 6)]) (S1 := [.int 6]) zd0_18 rfl rfl rfl ?_
    refine z_e1 (pc1 := 20) (L1 := [some (.ref 0), some (.ref 4), some (.ref 19), some (.int 6)]) (S1 := [.ref 0, .int 6]) zd0_19 rfl rfl rfl ?_
    refine z_ealn (y := 6) zd0_20 h0 rfl ?_
    refine z_e1 (pc1 := 23) (L1 := [some (.ref 0), some (.ref 4), some (.ref 19), some (.int 6)]) (S1 := [.int 6, .int 6, .int 6]) zd0_21 rfl rfl rfl ?_
    refine z_e1 (pc1 := 24) (L1 := [some (.ref 0), some (.ref 4), some (.ref 19), some (.int 6)]) (S1 := [.int 0, .int 6]) zd0_23 rfl rfl rfl ?_
    refine z_ej (t := 1781) (t2 := 1781) zd0_24 rfl rfl ?_
    refine z_e1 (pc1 := 1782) (L1 := [some (.ref 0), some (.ref 4), some (.ref 19), some (.int 6)]) (S1 := [.int 1]) zd0_1781 rfl rfl rfl ?_
    refine z_erz zd0_1782 zr0 (by decide) ?_
    exact z_K1i hN hS (by decide) (by decide)
theorem z_C28 {M : zH} {xs : Nat → Int32} {x1 x2 x3 x4 x5 : Int32} (h0 : M[0]? = some (.inl (0, 6, .inl xs))) (hN : M.length = 53) (hS : z_sz M ≤ 50000) (hB : z_fr M 4 53) (g1 : xs 1 = x1) (g2 : xs 2 = x2) (g3 : xs 3 = x3) (g4 : xs 4 = x4) (g5 : xs 5 = x5) : z_ev 2047 0 1364 [some (.ref 0), some (.ref 4), some (.ref 19), some (.int 0)] [] M z_K1 := by
  have b4 := z_qO (hB 4 (by decide) (by decide))
  have b19 := z_qO (hB 19 (by decide) (by decide))
  refine z_e1 (pc1 := 1365) (L1 := [some (.ref 0), some (.ref 4), some (.ref 19), some (.int 0)]) (S1 := [.ref 4]) zd0_1364 rfl rfl rfl ?_
  refine z_e1 (pc1 := 1366) (L1 := [some (.ref 0), some (.ref 4), some (.ref 19), some (.int 0)]) (S1 := [.ref 0, .ref 4]) zd0_1365 rfl rfl rfl ?_
  refine z_e1 (pc1 := 1367) (L1 := [some (.ref 0), some (.ref 4), some (.ref 19), some (.int 0)]) (S1 := [.int 0, .ref 0, .ref 4]) zd0_1366 rfl rfl rfl ?_
  refine z_e1 (pc1 := 1368) (L1 := [some (.ref 0), some (.ref 4), some (.ref 19), some (.int 0)]) (S1 := [.int 1, .int 0, .ref 0, .ref 4]) zd0_1367 rfl rfl rfl ?_
  refine z_e1 (pc1 := 1369) (L1 := [some (.ref 0), some (.ref 4), some (.ref 19), some (.int 0)]) (S1 := [.int 1, .ref 0, .ref 4]) zd0_1368 rfl rfl rfl ?_
  refine z_eial (y := x1) zd0_1369 h0 (by decide) g1 ?_
  refine z_e1 (pc1 := 1371) (L1 := [some (.ref 0), some (.ref 4), some (.ref 19), some (.int 0)]) (S1 := [.ref 0, .int x1, .ref 4]) zd0_1370 rfl rfl rfl ?_
  refine z_e1 (pc1 := 1372) (L1 := [some (.ref 0), some (.ref 4), some (.ref 19), some (.int 0)]) (S1 := [.int 0, .ref 0, .int x1, .ref 4]) zd0_1371 rfl rfl rfl ?_
  refine z_e1 (pc1 := 1373) (L1 := [some (.ref 0), some (.ref 4), some (.ref 19), some (.int 0)]) (S1 := [.int 2, .int 0, .ref 0, .int x1, .ref 4]) zd0_1372 rfl rfl rfl ?_
  refine z_e1 (pc1 := 1374) (L1 := [some (.ref 0), some (.ref 4), some (.ref 19), some (.int 0)]) (S1 := [.int 2, .ref 0, .int x1, .ref 4]) zd0_1373 rfl rfl rfl ?_
  refine z_eial (y := x2) zd0_1374 h0 (by decide) g2 ?_
  refine z_e1 (pc1 := 1376) (L1 := [some (.ref 0), some (.ref 4), some (.ref 19), some (.int 0)]) (S1 := [.ref 0, .int x2, .int x1, .ref 4]) zd0_1375 rfl rfl rfl ?_
  refine z_e1 (pc1 := 1377) (L1 := [some (.ref 0), some (.ref 4), some (.ref 19), some (.int 0)]) (S1 := [.int 0, .ref 0, .int x2, .int x1, .ref 4]) zd0_1376 rfl rfl rfl ?_
  refine z_e1 (pc1 := 1378) (L1 := [some (.ref 0), some (.ref 4), some (.ref 19), some (.int 0)]) (S1 := [.int 3, .int 0, .ref 0, .int x2, .int x1, .ref 4]) zd0_1377 rfl rfl rfl ?_
  refine z_e1 (pc1 := 1379) (L1 := [some (.ref 0), some (.ref 4), some (.ref 19), some (.int 0)]) (S1 := [.int 3, .ref 0, .int x2, .int x1, .ref 4]) zd0_1378 rfl rfl rfl ?_
  refine z_eial (y := x3) zd0_1379 h0 (by decide) g3 ?_
  refine z_ecV (vs := [.ref 4, .int x1, .int x2, .int x3]) (r := []) (L2 := [some (.ref 4), some (.int x1), some (.int x2), some (.int x3), none]) zd0_1380 zcV0_131 (Or.inl rfl) rfl b4 (by decide) rfl rfl rfl (Nat.le_of_ble_eq_true rfl) zm154 (Nat.le_of_ble_eq_true rfl) rfl ?_
  refine z_e1 (pc1 := 1) (L1 := [some (.ref 4), some (.int x1), some (.int x2), some (.int x3), none]) (S1 := [.ref 4]) zd154_0 rfl rfl rfl ?_
  refine z_e1 (pc1 := 2) (L1 := [some (.ref 4), some (.int x1), some (.int x2), some (.int x3), none]) (S1 := [.int x1, .ref 4]) zd154_1 rfl rfl rfl ?_
  refine z_ecV (vs := [.ref 4, .int x1]) (r := []) (L2 := [some (.ref 4), some (.int x1)]) zd154_2 zcV154_85 (Or.inl rfl) rfl b4 (by decide) rfl rfl rfl (Nat.le_of_ble_eq_true rfl) zm35 (Nat.le_of_ble_eq_true rfl) rfl ?_
  refine z_e1 (pc1 := 1) (L1 := [some (.ref 4), some (.int x1)]) (S1 := [.int x1]) zd35_0 rfl rfl rfl ?_
  by_cases e1 : x1.toInt < 0
  · refine z_ez (t := 12) (t2 := 12) zd35_1 rfl (z_b_ltx1 (k := 0) (by decide) e1) ?_
    refine z_e1 (pc1 := 13) (L1 := [some (.ref 4), some (.int x1)]) (S1 := [.null]) zd35_12 rfl rfl rfl ?_
    refine z_e1 (pc1 := 22) (L1 := [some (.ref 4), some (.int x1)]) (S1 := [.null]) zd35_13 rfl rfl rfl ?_
    refine z_ern zd35_22 zr35 ?_
    show z_ev _ 154 5 [some (.ref 4), some (.int x1), some (.int x2), some (.int x3), none] [.null] _ _
    refine z_e1 (pc1 := 7) (L1 := [some (.ref 4), some (.int x1), some (.int x2), some (.int x3), some (.null)]) (S1 := []) zd154_5 rfl rfl rfl ?_
    refine z_e1 (pc1 := 9) (L1 := [some (.ref 4), some (.int x1), some (.int x2), some (.int x3), some (.null)]) (S1 := [.null]) zd154_7 rfl rfl rfl ?_
    refine z_e1 (pc1 := 31) (L1 := [some (.ref 4), some (.int x1), some (.int x2), some (.int x3), some (.null)]) (S1 := []) zd154_9 rfl rfl rfl ?_
    refine z_e1 (pc1 := 32) (L1 := [some (.ref 4), some (.int x1), some (.int x2), some (.int x3), some (.null)]) (S1 := [.int (-1)]) zd154_31 rfl rfl rfl ?_
    refine z_eri zd154_32 zr154 ?_
    show z_ev _ 0 1383 [some (.ref 0), some (.ref 4), some (.ref 19), some (.int 0)] [.int (-1)] _ _
    refine z_e1 (pc1 := 1384) (L1 := [some (.ref 0), some (.ref 4), some (.ref 19), some (.int 0)]) (S1 := [.ref 19, .int (-1)]) zd0_1383 rfl rfl rfl ?_
    refine z_e1 (pc1 := 1385) (L1 := [some (.ref 0), some (.ref 4), some (.ref 19), some (.int 0)]) (S1 := [.ref 0, .ref 19, .int (-1)]) zd0_1384 rfl rfl rfl ?_
    refine z_e1 (pc1 := 1386) (L1 := [some (.ref 0), some (.ref 4), some (.ref 19), some (.int 0)]) (S1 := [.int 0, .ref 0, .ref 19, .int (-1)]) zd0_1385 rfl rfl rfl ?_
    refine z_e1 (pc1 := 1387) (L1 := [some (.ref 0), some (.ref 4), some (.ref 19), some (.int 0)]) (S1 := [.int 1, .int 0, .ref 0, .ref 19, .int (-1)]) zd0_1386 rfl rfl rfl ?_
    refine z_e1 (pc1 := 1388) (L1 := [some (.ref 0), some (.ref 4), some (.ref 19), some (.int 0)]) (S1 := [.int 1, .ref 0, .ref 19, .int (-1)]) zd0_1387 rfl rfl rfl ?_
    refine z_eial (y := x1) zd0_1388 h0 (by decide) g1 ?_
    refine z_e1 (pc1 := 1390) (L1 := [some (.ref 0), some (.ref 4), some (.ref 19), some (.int 0)]) (S1 := [.ref 0, .int x1, .ref 19, .int (-1)]) zd0_1389 rfl rfl rfl ?_
    refine z_e1 (pc1 := 1391) (L1 := [some (.ref 0), some (.ref 4), some (.ref 19), some (.int 0)]) (S1 := [.int 0, .ref 0, .int x1, .ref 19, .int (-1)]) zd0_1390 rfl rfl rfl ?_
    refine z_e1 (pc1 := 1392) (L1 := [some (.ref 0), some (.ref 4), some (.ref 19), some (.int 0)]) (S1 := [.int 2, .int 0, .ref 0, .int x1, .ref 19, .int (-1)]) zd0_1391 rfl rfl rfl ?_
    refine z_e1 (pc1 := 1393) (L1 := [some (.ref 0), some (.ref 4), some (.ref 19), some (.int 0)]) (S1 := [.int 2, .ref 0, .int x1, .ref 19, .int (-1)]) zd0_1392 rfl rfl rfl ?_
    refine z_eial (y := x2) zd0_1393 h0 (by decide) g2 ?_
    refine z_e1 (pc1 := 1395) (L1 := [some (.ref 0), some (.ref 4), some (.ref 19), some (.int 0)]) (S1 := [.ref 0, .int x2, .int x1, .ref 19, .int (-1)]) zd0_1394 rfl rfl rfl ?_
    refine z_e1 (pc1 := 1396) (L1 := [some (.ref 0), some (.ref 4), some (.ref 19), some (.int 0)]) (S1 := [.int 0, .ref 0, .int x2, .int x1, .ref 19, .int (-1)]) zd0_1395 rfl rfl rfl ?_
    refine z_e1 (pc1 := 1397) (L1 := [some (.ref 0), some (.ref 4), some (.ref 19), some (.int 0)]) (S1 := [.int 3, .int 0, .ref 0, .int x2, .int x1, .ref 19, .int (-1)]) zd0_1396 rfl rfl rfl ?_
    refine z_e1 (pc1 := 1398) (L1 := [some (.ref 0), some (.ref 4), some (.ref 19), some (.int 0)]) (S1 := [.int 3, .ref 0, .int x2, .int x1, .ref 19, .int (-1)]) zd0_1397 rfl rfl rfl ?_
    refine z_eial (y := x3) zd0_1398 h0 (by decide) g3 ?_
    refine z_ecV (vs := [.ref 19, .int x1, .int x2, .int x3]) (r := [.int (-1)]) (L2 := [some (.ref 19), some (.int x1), some (.int x2), some (.int x3)]) zd0_1399 zcV0_134 (Or.inl rfl) rfl b19 (by decide) rfl rfl rfl (Nat.le_of_ble_eq_true rfl) zm274 (Nat.le_of_ble_eq_true rfl) rfl ?_
    refine z_e1 (pc1 := 1) (L1 := [some (.ref 19), some (.int x1), some (.int x2), some (.int x3)]) (S1 := [.ref 19]) zd274_0 rfl rfl rfl ?_
    refine z_e1 (pc1 := 2) (L1 := [some (.ref 19), some (.int x1), some (.int x2), some (.int x3)]) (S1 := [.int x1, .ref 19]) zd274_1 rfl rfl rfl ?_
    refine z_ecV (vs := [.ref 19, .int x1]) (r := []) (L2 := [some (.ref 19), some (.int x1)]) zd274_2 zcV274_209 (Or.inl rfl) rfl b19 (by decide) rfl rfl rfl (Nat.le_of_ble_eq_true rfl) zm209 (Nat.le_of_ble_eq_true rfl) rfl ?_
    refine z_e1 (pc1 := 1) (L1 := [some (.ref 19), some (.int x1)]) (S1 := [.int x1]) zd209_0 rfl rfl rfl ?_
    refine z_ez (t := 16) (t2 := 16) zd209_1 rfl (z_b_ltx1 (k := 0) (by decide) (show x1.toInt < 0 from by omega)) ?_
    refine z_e1 (pc1 := 17) (L1 := [some (.ref 19), some (.int x1)]) (S1 := [.int 0]) zd209_16 rfl rfl rfl ?_
    refine z_erz zd209_17 zr209 (by decide) ?_
    show z_ev _ 274 5 [some (.ref 19), some (.int x1), some (.int x2), some (.int x3)] [.int 0] _ _
    refine z_ez (t := 39) (t2 := 39) zd274_5 rfl rfl ?_
    refine z_e1 (pc1 := 40) (L1 := [some (.ref 19), some (.int x1), some (.int x2), some (.int x3)]) (S1 := [.int (-1)]) zd274_39 rfl rfl rfl ?_
    refine z_eri zd274_40 zr274 ?_
    show z_ev _ 0 1402 [some (.ref 0), some (.ref 4), some (.ref 19), some (.int 0)] [.int (-1), .int (-1)] _ _
    refine z_ej (t := 1775) (t2 := 1775) zd0_1402 rfl rfl ?_
    refine z_e1 (pc1 := 1778) (L1 := [some (.ref 0), some (.ref 4), some (.ref 19), some (.int 6)]) (S1 := []) zd0_1775 rfl rfl rfl ?_
    refine z_e1 (pc1 := 18) (L1 := [some (.ref 0), some (.ref 4), some (.ref 19), some (.int 6)]) (S1 := []) zd0_1778 rfl rfl rfl ?_
    refine z_e1 (pc1 := 19) (L1 := [some (.ref 0), some (.ref 4), some (.ref 19), some (.int 6)]) (S1 := [.int 6]) zd0_18 rfl rfl rfl ?_
    refine z_e1 (pc1 := 20) (L1 := [some (.ref 0), some (.ref 4), some (.ref 19), some (.int 6)]) (S1 := [.ref 0, .int 6]) zd0_19 rfl rfl rfl ?_
    refine z_ealn (y := 6) zd0_20 h0 rfl ?_
    refine z_e1 (pc1 := 23) (L1 := [some (.ref 0), some (.ref 4), some (.ref 19), some (.int 6)]) (S1 := [.int 6, .int 6, .int 6]) zd0_21 rfl rfl rfl ?_
    refine z_e1 (pc1 := 24) (L1 := [some (.ref 0), some (.ref 4), some (.ref 19), some (.int 6)]) (S1 := [.int 0, .int 6]) zd0_23 rfl rfl rfl ?_
    refine z_ej (t := 1781) (t2 := 1781) zd0_24 rfl rfl ?_
    refine z_e1 (pc1 := 1782) (L1 := [some (.ref 0), some (.ref 4), some (.ref 19), some (.int 6)]) (S1 := [.int 1]) zd0_1781 rfl rfl rfl ?_
    refine z_erz zd0_1782 zr0 (by decide) ?_
    exact z_K1i hN hS (by decide) (by decide)
  · refine z_ez (t := 12) (t2 := 4) zd35_1 rfl (z_b_ltx0 (k := 0) (by decide) e1) ?_
    refine z_e1 (pc1 := 5) (L1 := [some (.ref 4), some (.int x1)]) (S1 := [.int x1]) zd35_4 rfl rfl rfl ?_
    refine z_e1 (pc1 := 6) (L1 := [some (.ref 4), some (.int x1)]) (S1 := [.ref 4, .int x1]) zd35_5 rfl rfl rfl ?_
    refine z_egf (fs := [.ref 5, .ref 10, .ref 11, .int 0, .ref 12, .int 0, .ref 13, .ref 14, .ref 15, .ref 16, .ref 17, .ref 18, .null]) (v := .int 0) zd35_6 zf35_59 b4 (by decide) (by decide) rfl ?_
    refine z_ej (t := 16) (t2 := 12) zd35_9 rfl (z_b_ltx0 (k := 0) (by decide) (show ¬ x1.toInt < 0 from by omega)) ?_
    refine z_e1 (pc1 := 13) (L1 := [some (.ref 4), some (.int x1)]) (S1 := [.null]) zd35_12 rfl rfl rfl ?_
    refine z_e1 (pc1 := 22) (L1 := [some (.ref 4), some (.int x1)]) (S1 := [.null]) zd35_13 rfl rfl rfl ?_
    refine z_ern zd35_22 zr35 ?_
    show z_ev _ 154 5 [some (.ref 4), some (.int x1), some (.int x2), some (.int x3), none] [.null] _ _
    refine z_e1 (pc1 := 7) (L1 := [some (.ref 4), some (.int x1), some (.int x2), some (.int x3), some (.null)]) (S1 := []) zd154_5 rfl rfl rfl ?_
    refine z_e1 (pc1 := 9) (L1 := [some (.ref 4), some (.int x1), some (.int x2), some (.int x3), some (.null)]) (S1 := [.null]) zd154_7 rfl rfl rfl ?_
    refine z_e1 (pc1 := 31) (L1 := [some (.ref 4), some (.int x1), some (.int x2), some (.int x3), some (.null)]) (S1 := []) zd154_9 rfl rfl rfl ?_
    refine z_e1 (pc1 := 32) (L1 := [some (.ref 4), some (.int x1), some (.int x2), some (.int x3), some (.null)]) (S1 := [.int (-1)]) zd154_31 rfl rfl rfl ?_
    refine z_eri zd154_32 zr154 ?_
    show z_ev _ 0 1383 [some (.ref 0), some (.ref 4), some (.ref 19), some (.int 0)] [.int (-1)] _ _
    refine z_e1 (pc1 := 1384) (L1 := [some (.ref 0), some (.ref 4), some (.ref 19), some (.int 0)]) (S1 := [.ref 19, .int (-1)]) zd0_1383 rfl rfl rfl ?_
    refine z_e1 (pc1 := 1385) (L1 := [some (.ref 0), some (.ref 4), some (.ref 19), some (.int 0)]) (S1 := [.ref 0, .ref 19, .int (-1)]) zd0_1384 rfl rfl rfl ?_
    refine z_e1 (pc1 := 1386) (L1 := [some (.ref 0), some (.ref 4), some (.ref 19), some (.int 0)]) (S1 := [.int 0, .ref 0, .ref 19, .int (-1)]) zd0_1385 rfl rfl rfl ?_
    refine z_e1 (pc1 := 1387) (L1 := [some (.ref 0), some (.ref 4), some (.ref 19), some (.int 0)]) (S1 := [.int 1, .int 0, .ref 0, .ref 19, .int (-1)]) zd0_1386 rfl rfl rfl ?_
    refine z_e1 (pc1 := 1388) (L1 := [some (.ref 0), some (.ref 4), some (.ref 19), some (.int 0)]) (S1 := [.int 1, .ref 0, .ref 19, .int (-1)]) zd0_1387 rfl rfl rfl ?_
    refine z_eial (y := x1) zd0_1388 h0 (by decide) g1 ?_
    refine z_e1 (pc1 := 1390) (L1 := [some (.ref 0), some (.ref 4), some (.ref 19), some (.int 0)]) (S1 := [.ref 0, .int x1, .ref 19, .int (-1)]) zd0_1389 rfl rfl rfl ?_
    refine z_e1 (pc1 := 1391) (L1 := [some (.ref 0), some (.ref 4), some (.ref 19), some (.int 0)]) (S1 := [.int 0, .ref 0, .int x1, .ref 19, .int (-1)]) zd0_1390 rfl rfl rfl ?_
    refine z_e1 (pc1 := 1392) (L1 := [some (.ref 0), some (.ref 4), some (.ref 19), some (.int 0)]) (S1 := [.int 2, .int 0, .ref 0, .int x1, .ref 19, .int (-1)]) zd0_1391 rfl rfl rfl ?_
    refine z_e1 (pc1 := 1393) (L1 := [some (.ref 0), some (.ref 4), some (.ref 19), some (.int 0)]) (S1 := [.int 2, .ref 0, .int x1, .ref 19, .int (-1)]) zd0_1392 rfl rfl rfl ?_
    refine z_eial (y := x2) zd0_1393 h0 (by decide) g2 ?_
    refine z_e1 (pc1 := 1395) (L1 := [some (.ref 0), some (.ref 4), some (.ref 19), some (.int 0)]) (S1 := [.ref 0, .int x2, .int x1, .ref 19, .int (-1)]) zd0_1394 rfl rfl rfl ?_
    refine z_e1 (pc1 := 1396) (L1 := [some (.ref 0), some (.ref 4), some (.ref 19), some (.int 0)]) (S1 := [.int 0, .ref 0, .int x2, .int x1, .ref 19, .int (-1)]) zd0_1395 rfl rfl rfl ?_
    refine z_e1 (pc1 := 1397) (L1 := [some (.ref 0), some (.ref 4), some (.ref 19), some (.int 0)]) (S1 := [.int 3, .int 0, .ref 0, .int x2, .int x1, .ref 19, .int (-1)]) zd0_1396 rfl rfl rfl ?_
    refine z_e1 (pc1 := 1398) (L1 := [some (.ref 0), some (.ref 4), some (.ref 19), some (.int 0)]) (S1 := [.int 3, .ref 0, .int x2, .int x1, .ref 19, .int (-1)]) zd0_1397 rfl rfl rfl ?_
    refine z_eial (y := x3) zd0_1398 h0 (by decide) g3 ?_
    refine z_ecV (vs := [.ref 19, .int x1, .int x2, .int x3]) (r := [.int (-1)]) (L2 := [some (.ref 19), some (.int x1), some (.int x2), some (.int x3)]) zd0_1399 zcV0_134 (Or.inl rfl) rfl b19 (by decide) rfl rfl rfl (Nat.le_of_ble_eq_true rfl) zm274 (Nat.le_of_ble_eq_true rfl) rfl ?_
    refine z_e1 (pc1 := 1) (L1 := [some (.ref 19), some (.int x1), some (.int x2), some (.int x3)]) (S1 := [.ref 19]) zd274_0 rfl rfl rfl ?_
    refine z_e1 (pc1 := 2) (L1 := [some (.ref 19), some (.int x1), some (.int x2), some (.int x3)]) (S1 := [.int x1, .ref 19]) zd274_1 rfl rfl rfl ?_
    refine z_ecV (vs := [.ref 19, .int x1]) (r := []) (L2 := [some (.ref 19), some (.int x1)]) zd274_2 zcV274_209 (Or.inl rfl) rfl b19 (by decide) rfl rfl rfl (Nat.le_of_ble_eq_true rfl) zm209 (Nat.le_of_ble_eq_true rfl) rfl ?_
    refine z_e1 (pc1 := 1) (L1 := [some (.ref 19), some (.int x1)]) (S1 := [.int x1]) zd209_0 rfl rfl rfl ?_
    refine z_ez (t := 16) (t2 := 4) zd209_1 rfl (z_b_ltx0 (k := 0) (by decide) (show ¬ x1.toInt < 0 from by omega)) ?_
    refine z_e1 (pc1 := 5) (L1 := [some (.ref 19), some (.int x1)]) (S1 := [.int x1]) zd209_4 rfl rfl rfl ?_
    refine z_e1 (pc1 := 6) (L1 := [some (.ref 19), some (.int x1)]) (S1 := [.ref 19, .int x1]) zd209_5 rfl rfl rfl ?_
    refine z_egf (fs := [.ref 20, .int 0, .ref 21, .ref 22, .ref 23, .ref 24, .ref 25, .ref 26, .ref 27, .ref 28, .ref 29, .ref 30, .ref 31, .int 0, .ref 32, .ref 33, .ref 34, .ref 35, .ref 36, .ref 37, .ref 38, .int 0, .int 0, .int 0, .int 0, .int 0, .int 0, .int 0, .int 0, .int 0, .int 0, .ref 39, .ref 40, .ref 41, .int 0, .int 0, .ref 42, .ref 43, .ref 44, .ref 45, .ref 46, .int 0, .ref 47, .int 0, .int 0, .int 0, .ref 48, .int 0, .int 0, .ref 49, .ref 50, .ref 51, .ref 52]) (v := .int 0) zd209_6 zf209_110 b19 (by decide) (by decide) rfl ?_
    refine z_ej (t := 16) (t2 := 16) zd209_9 rfl (z_b_gex0 (k := 0) (by decide) (show ¬ x1.toInt < 0 from by omega)) ?_
    refine z_e1 (pc1 := 17) (L1 := [some (.ref 19), some (.int x1)]) (S1 := [.int 0]) zd209_16 rfl rfl rfl ?_
    refine z_erz zd209_17 zr209 (by decide) ?_
    show z_ev _ 274 5 [some (.ref 19), some (.int x1), some (.int x2), some (.int x3)] [.int 0] _ _
    refine z_ez (t := 39) (t2 := 39) zd274_5 rfl rfl ?_
    refine z_e1 (pc1 := 40) (L1 := [some (.ref 19), some (.int x1), some (.int x2), some (.int x3)]) (S1 := [.int (-1)]) zd274_39 rfl rfl rfl ?_
    refine z_eri zd274_40 zr274 ?_
    show z_ev _ 0 1402 [some (.ref 0), some (.ref 4), some (.ref 19), some (.int 0)] [.int (-1), .int (-1)] _ _
    refine z_ej (t := 1775) (t2 := 1775) zd0_1402 rfl rfl ?_
    refine z_e1 (pc1 := 1778) (L1 := [some (.ref 0), some (.ref 4), some (.ref 19), some (.int 6)]) (S1 := []) zd0_1775 rfl rfl rfl ?_
    refine z_e1 (pc1 := 18) (L1 := [some (.ref 0), some (.ref 4), some (.ref 19), some (.int 6)]) (S1 := []) zd0_1778 rfl rfl rfl ?_
    refine z_e1 (pc1 := 19) (L1 := [some (.ref 0), some (.ref 4), some (.ref 19), some (.int 6)]) (S1 := [.int 6]) zd0_18 rfl rfl rfl ?_
    refine z_e1 (pc1 := 20) (L1 := [some (.ref 0), some (.ref 4), some (.ref 19), some (.int 6)]) (S1 := [.ref 0, .int 6]) zd0_19 rfl rfl rfl ?_
    refine z_ealn (y := 6) zd0_20 h0 rfl ?_
    refine z_e1 (pc1 := 23) (L1 := [some (.ref 0), some (.ref 4), some (.ref 19), some (.int 6)]) (S1 := [.int 6, .int 6, .int 6]) zd0_21 rfl rfl rfl ?_
    refine z_e1 (pc1 := 24) (L1 := [some (.ref 0), some (.ref 4), some (.ref 19), some (.int 6)]) (S1 := [.int 0, .int 6]) zd0_23 rfl rfl rfl ?_
    refine z_ej (t := 1781) (t2 := 1781) zd0_24 rfl rfl ?_
    refine z_e1 (pc1 := 1782) (L1 := [some (.ref 0), some (.ref 4), some (.ref 19), some (.int 6)]) (S1 := [.int 1]) zd0_1781 rfl rfl rfl ?_
    refine z_erz zd0_1782 zr0 (by decide) ?_
    exact z_K1i hN hS (by decide) (by decide)
theorem z_C29 {M : zH} {xs : Nat → Int32} {x1 x2 x3 x4 x5 : Int32} (h0 : M[0]? = some (.inl (0, 6, .inl xs))) (hN : M.length = 53) (hS : z_sz M ≤ 50000) (hB : z_fr M 4 53) (g1 : xs 1 = x1) (g2 : xs 2 = x2) (g3 : xs 3 = x3) (g4 : xs 4 = x4) (g5 : xs 5 = x5) : z_ev 2047 0 1407 [some (.ref 0), some (.ref 4), some (.ref 19), some (.int 0)] [] M z_K1 := by
  have b4 := z_qO (hB 4 (by decide) (by decide))
  obtain ⟨f13, b13, c13⟩ := z_qI (hB 13 (by decide) (by decide))
  have b19 := z_qO (hB 19 (by decide) (by decide))
  refine z_e1 (pc1 := 1408) (L1 := [some (.ref 0), some (.ref 4), some (.ref 19), some (.int 0)]) (S1 := [.ref 4]) zd0_1407 rfl rfl rfl ?_
  refine z_e1 (pc1 := 1409) (L1 := [some (.ref 0), some (.ref 4), some (.ref 19), some (.int 0)]) (S1 := [.ref 0, .ref 4]) zd0_1408 rfl rfl rfl ?_
  refine z_e1 (pc1 := 1410) (L1 := [some (.ref 0), some (.ref 4), some (.ref 19), some (.int 0)]) (S1 := [.int 0, .ref 0, .ref 4]) zd0_1409 rfl rfl rfl ?_
  refine z_e1 (pc1 := 1411) (L1 := [some (.ref 0), some (.ref 4), some (.ref 19), some (.int 0)]) (S1 := [.int 1, .int 0, .ref 0, .ref 4]) zd0_1410 rfl rfl rfl ?_
  refine z_e1 (pc1 := 1412) (L1 := [some (.ref 0), some (.ref 4), some (.ref 19), some (.int 0)]) (S1 := [.int 1, .ref 0, .ref 4]) zd0_1411 rfl rfl rfl ?_
  refine z_eial (y := x1) zd0_1412 h0 (by decide) g1 ?_
  refine z_e1 (pc1 := 1414) (L1 := [some (.ref 0), some (.ref 4), some (.ref 19), some (.int 0)]) (S1 := [.ref 0, .int x1, .ref 4]) zd0_1413 rfl rfl rfl ?_
  refine z_e1 (pc1 := 1415) (L1 := [some (.ref 0), some (.ref 4), some (.ref 19), some (.int 0)]) (S1 := [.int 0, .ref 0, .int x1, .ref 4]) zd0_1414 rfl rfl rfl ?_
  refine z_e1 (pc1 := 1416) (L1 := [some (.ref 0), some (.ref 4), some (.ref 19), some (.int 0)]) (S1 := [.int 2, .int 0, .ref 0, .int x1, .ref 4]) zd0_1415 rfl rfl rfl ?_
  refine z_e1 (pc1 := 1417) (L1 := [some (.ref 0), some (.ref 4), some (.ref 19), some (.int 0)]) (S1 := [.int 2, .ref 0, .int x1, .ref 4]) zd0_1416 rfl rfl rfl ?_
  refine z_eial (y := x2) zd0_1417 h0 (by decide) g2 ?_
  refine z_e1 (pc1 := 1419) (L1 := [some (.ref 0), some (.ref 4), some (.ref 19), some (.int 0)]) (S1 := [.ref 0, .int x2, .int x1, .ref 4]) zd0_1418 rfl rfl rfl ?_
  refine z_e1 (pc1 := 1420) (L1 := [some (.ref 0), some (.ref 4), some (.ref 19), some (.int 0)]) (S1 := [.int 0, .ref 0, .int x2, .int x1, .ref 4]) zd0_1419 rfl rfl rfl ?_
  refine z_e1 (pc1 := 1421) (L1 := [some (.ref 0), some (.ref 4), some (.ref 19), some (.int 0)]) (S1 := [.int 3, .int 0, .ref 0, .int x2, .int x1, .ref 4]) zd0_1420 rfl rfl rfl ?_
  refine z_e1 (pc1 := 1422) (L1 := [some (.ref 0), some (.ref 4), some (.ref 19), some (.int 0)]) (S1 := [.int 3, .ref 0, .int x2, .int x1, .ref 4]) zd0_1421 rfl rfl rfl ?_
  refine z_eial (y := x3) zd0_1422 h0 (by decide) g3 ?_
  refine z_ecV (vs := [.ref 4, .int x1, .int x2, .int x3]) (r := []) (L2 := [some (.ref 4), some (.int x1), some (.int x2), some (.int x3), none]) zd0_1423 zcV0_135 (Or.inl rfl) rfl b4 (by decide) rfl rfl rfl (Nat.le_of_ble_eq_true rfl) zm159 (Nat.le_of_ble_eq_true rfl) rfl ?_
  refine z_e1 (pc1 := 1) (L1 := [some (.ref 4), some (.int x1), some (.int x2), some (.int x3), none]) (S1 := [.ref 4]) zd159_0 rfl rfl rfl ?_
  refine z_egf (fs := [.ref 5, .ref 10, .ref 11, .int 0, .ref 12, .int 0, .ref 13, .ref 14, .ref 15, .ref 16, .ref 17, .ref 18, .null]) (v := .ref 13) zd159_1 zf159_31 b4 (by decide) (by decide) rfl ?_
  refine z_e1 (pc1 := 5) (L1 := [some (.ref 4), some (.int x1), some (.int x2), some (.int x3), none]) (S1 := [.int 0, .ref 13]) zd159_4 rfl rfl rfl ?_
  refine z_e1 (pc1 := 6) (L1 := [some (.ref 4), some (.int x1), some (.int x2), some (.int x3), none]) (S1 := [.int 0, .int 0, .ref 13]) zd159_5 rfl rfl rfl ?_
  refine z_eias zd159_6 b13 (by decide) (by decide) ?_
  refine z_e1 (pc1 := 8) (L1 := [some (.ref 4), some (.int x1), some (.int x2), some (.int x3), none]) (S1 := [.ref 4]) zd159_7 rfl rfl rfl ?_
  refine z_e1 (pc1 := 9) (L1 := [some (.ref 4), some (.int x1), some (.int x2), some (.int x3), none]) (S1 := [.int x1, .ref 4]) zd159_8 rfl rfl rfl ?_
  refine z_ecV (vs := [.ref 4, .int x1]) (r := []) (L2 := [some (.ref 4), some (.int x1)]) zd159_9 zcV159_221 (Or.inl rfl) rfl (z_gn (by decide) b4) (by decide) rfl rfl rfl (Nat.le_of_ble_eq_true rfl) zm84 (Nat.le_of_ble_eq_true rfl) rfl ?_
  refine z_e1 (pc1 := 1) (L1 := [some (.ref 4), some (.int x1)]) (S1 := [.int x1]) zd84_0 rfl rfl rfl ?_
  by_cases e1 : x1.toInt < 0
  · refine z_ez (t := 12) (t2 := 12) zd84_1 rfl (z_b_ltx1 (k := 0) (by decide) e1) ?_
    refine z_e1 (pc1 := 13) (L1 := [some (.ref 4), some (.int x1)]) (S1 := [.null]) zd84_12 rfl rfl rfl ?_
    refine z_e1 (pc1 := 22) (L1 := [some (.ref 4), some (.int x1)]) (S1 := [.null]) zd84_13 rfl rfl rfl ?_
    refine z_ern zd84_22 zr84 ?_
    show z_ev _ 159 12 [some (.ref 4), some (.int x1), some (.int x2), some (.int x3), none] [.null] _ _
    refine z_e1 (pc1 := 14) (L1 := [some (.ref 4), some (.int x1), some (.int x2), some (.int x3), some (.null)]) (S1 := []) zd159_12 rfl rfl rfl ?_
    refine z_e1 (pc1 := 16) (L1 := [some (.ref 4), some (.int x1), some (.int x2), some (.int x3), some (.null)]) (S1 := [.null]) zd159_14 rfl rfl rfl ?_
    refine z_e1 (pc1 := 19) (L1 := [some (.ref 4), some (.int x1), some (.int x2), some (.int x3), some (.null)]) (S1 := []) zd159_16 rfl rfl rfl ?_
    refine z_e1 (pc1 := 20) (L1 := [some (.ref 4), some (.int x1), some (.int x2), some (.int x3), some (.null)]) (S1 := [.int 0]) zd159_19 rfl rfl rfl ?_
    refine z_eri zd159_20 zr159 ?_
    show z_ev _ 0 1426 [some (.ref 0), some (.ref 4), some (.ref 19), some (.int 0)] [.int 0] _ _
    refine z_e1 (pc1 := 1427) (L1 := [some (.ref 0), some (.ref 4), some (.ref 19), some (.int 0)]) (S1 := [.ref 19, .int 0]) zd0_1426 rfl rfl rfl ?_
    refine z_e1 (pc1 := 1428) (L1 := [some (.ref 0), some (.ref 4), some (.ref 19), some (.int 0)]) (S1 := [.ref 0, .ref 19, .int 0]) zd0_1427 rfl rfl rfl ?_
    refine z_e1 (pc1 := 1429) (L1 := [some (.ref 0), some (.ref 4), some (.ref 19), some (.int 0)]) (S1 := [.int 0, .ref 0, .ref 19, .int 0]) zd0_1428 rfl rfl rfl ?_
    refine z_e1 (pc1 := 1430) (L1 := [some (.ref 0), some (.ref 4), some (.ref 19), some (.int 0)]) (S1 := [.int 1, .int 0, .ref 0, .ref 19, .int 0]) zd0_1429 rfl rfl rfl ?_
    refine z_e1 (pc1 := 1431) (L1 := [some (.ref 0), some (.ref 4), some (.ref 19), some (.int 0)]) (S1 := [.int 1, .ref 0, .ref 19, .int 0]) zd0_1430 rfl rfl rfl ?_
    refine z_eial (y := x1) zd0_1431 (z_gn (by decide) h0) (by decide) g1 ?_
    refine z_e1 (pc1 := 1433) (L1 := [some (.ref 0), some (.ref 4), some (.ref 19), some (.int 0)]) (S1 := [.ref 0, .int x1, .ref 19, .int 0]) zd0_1432 rfl rfl rfl ?_
    refine z_e1 (pc1 := 1434) (L1 := [some (.ref 0), some (.ref 4), some (.ref 19), some (.int 0)]) (S1 := [.int 0, .ref 0, .int x1, .ref 19, .int 0]) zd0_1433 rfl rfl rfl ?_
    refine z_e1 (pc1 := 1435) (L1 := [some (.ref 0), some (.ref 4), some (.ref 19), some (.int 0)]) (S1 := [.int 2, .int 0, .ref 0, .int x1, .ref 19, .int 0]) zd0_1434 rfl rfl rfl ?_
    refine z_e1 (pc1 := 1436) (L1 := [some (.ref 0), some (.ref 4), some (.ref 19), some (.int 0)]) (S1 := [.int 2, .ref 0, .int x1, .ref 19, .int 0]) zd0_1435 rfl rfl rfl ?_
    refine z_eial (y := x2) zd0_1436 (z_gn (by decide) h0) (by decide) g2 ?_
    refine z_e1 (pc1 := 1438) (L1 := [some (.ref 0), some (.ref 4), some (.ref 19), some (.int 0)]) (S1 := [.ref 0, .int x2, .int x1, .ref 19, .int 0]) zd0_1437 rfl rfl rfl ?_
    refine z_e1 (pc1 := 1439) (L1 := [some (.ref 0), some (.ref 4), some (.ref 19), some (.int 0)]) (S1 := [.int 0, .ref 0, .int x2, .int x1, .ref 19, .int 0]) zd0_1438 rfl rfl rfl ?_
    refine z_e1 (pc1 := 1440) (L1 := [some (.ref 0), some (.ref 4), some (.ref 19), some (.int 0)]) (S1 := [.int 3, .int 0, .ref 0, .int x2, .int x1, .ref 19, .int 0]) zd0_1439 rfl rfl rfl ?_
    refine z_e1 (pc1 := 1441) (L1 := [some (.ref 0), some (.ref 4), some (.ref 19), some (.int 0)]) (S1 := [.int 3, .ref 0, .int x2, .int x1, .ref 19, .int 0]) zd0_1440 rfl rfl rfl ?_
    refine z_eial (y := x3) zd0_1441 (z_gn (by decide) h0) (by decide) g3 ?_
    refine z_ecV (vs := [.ref 19, .int x1, .int x2, .int x3]) (r := [.int 0]) (L2 := [some (.ref 19), some (.int x1), some (.int x2), some (.int x3)]) zd0_1442 zcV0_138 (Or.inl rfl) rfl (z_gn (by decide) b19) (by decide) rfl rfl rfl (Nat.le_of_ble_eq_true rfl) zm276 (Nat.le_of_ble_eq_true rfl) rfl ?_
    refine z_e1 (pc1 := 1) (L1 := [some (.ref 19), some (.int x1), some (.int x2), some (.int x3)]) (S1 := [.ref 19]) zd276_0 rfl rfl rfl ?_
    refine z_e1 (pc1 := 2) (L1 := [some (.ref 19), some (.int x1), some (.int x2), some (.int x3)]) (S1 := [.int 0, .ref 19]) zd276_1 rfl rfl rfl ?_
    refine z_epf (fs := [.ref 20, .int 0, .ref 21, .ref 22, .ref 23, .ref 24, .ref 25, .ref 26, .ref 27, .ref 28, .ref 29, .ref 30, .ref 31, .int 0, .ref 32, .ref 33, .ref 34, .ref 35, .ref 36, .ref 37, .ref 38, .int 0, .int 0, .int 0, .int 0, .int 0, .int 0, .int 0, .int 0, .int 0, .int 0, .ref 39, .ref 40, .ref 41, .int 0, .int 0, .ref 42, .ref 43, .ref 44, .ref 45, .ref 46, .int 0, .ref 47, .int 0, .int 0, .int 0, .ref 48, .int 0, .int 0, .ref 49, .ref 50, .ref 51, .ref 52]) zd276_2 zf276_381 (z_gn (by decide) b19) (by decide) (by decide) rfl (Nat.le_of_ble_eq_true rfl) (Or.inl rfl) ?_
    refine z_e1 (pc1 := 6) (L1 := [some (.ref 19), some (.int x1), some (.int x2), some (.int x3)]) (S1 := [.ref 19]) zd276_5 rfl rfl rfl ?_
    refine z_e1 (pc1 := 7) (L1 := [some (.ref 19), some (.int x1), some (.int x2), some (.int x3)]) (S1 := [.int x1, .ref 19]) zd276_6 rfl rfl rfl ?_
    refine z_ecV (vs := [.ref 19, .int x1]) (r := []) (L2 := [some (.ref 19), some (.int x1)]) zd276_7 zcV276_272 (Or.inl rfl) rfl (z_gs1 (z_gn (by decide) b19)) (by decide) rfl rfl rfl (Nat.le_of_ble_eq_true rfl) zm237 (Nat.le_of_ble_eq_true rfl) rfl ?_
    refine z_e1 (pc1 := 1) (L1 := [some (.ref 19), some (.int x1)]) (S1 := [.int x1]) zd237_0 rfl rfl rfl ?_
    refine z_ez (t := 16) (t2 := 16) zd237_1 rfl (z_b_ltx1 (k := 0) (by decide) (show x1.toInt < 0 from by omega)) ?_
    refine z_e1 (pc1 := 17) (L1 := [some (.ref 19), some (.int x1)]) (S1 := [.int 0]) zd237_16 rfl rfl rfl ?_
    refine z_erz zd237_17 zr237 (by decide) ?_
    show z_ev _ 276 10 [some (.ref 19), some (.int x1), some (.int x2), some (.int x3)] [.int 0] _ _
    refine z_ez (t := 25) (t2 := 25) zd276_10 rfl rfl ?_
    refine z_e1 (pc1 := 26) (L1 := [some (.ref 19), some (.int x1), some (.int x2), some (.int x3)]) (S1 := [.int 0]) zd276_25 rfl rfl rfl ?_
    refine z_eri zd276_26 zr276 ?_
    show z_ev _ 0 1445 [some (.ref 0), some (.ref 4), some (.ref 19), some (.int 0)] [.int 0, .int 0] _ _
    refine z_ej (t := 1775) (t2 := 1775) zd0_1445 rfl rfl ?_
    refine z_e1 (pc1 := 1778) (L1 := [some (.ref 0), some (.ref 4), some (.ref 19), some (.int 6)]) (S1 := []) zd0_1775 rfl rfl rfl ?_
    refine z_e1 (pc1 := 18) (L1 := [some (.ref 0), some (.ref 4), some (.ref 19), some (.int 6)]) (S1 := []) zd0_1778 rfl rfl rfl ?_
    refine z_e1 (pc1 := 19) (L1 := [some (.ref 0), some (.ref 4), some (.ref 19), some (.int 6)]) (S1 := [.int 6]) zd0_18 rfl rfl rfl ?_
    refine z_e1 (pc1 := 20) (L1 := [some (.ref 0), some (.ref 4), some (.ref 19), some (.int 6)]) (S1 := [.ref 0, .int 6]) zd0_19 rfl rfl rfl ?_
    refine z_ealn (y := 6) zd0_20 (z_gn (by decide) (z_gn (by decide) h0)) rfl ?_
    refine z_e1 (pc1 := 23) (L1 := [some (.ref 0), some (.ref 4), some (.ref 19), some (.int 6)]) (S1 := [.int 6, .int 6, .int 6]) zd0_21 rfl rfl rfl ?_
    refine z_e1 (pc1 := 24) (L1 := [some (.ref 0), some (.ref 4), some (.ref 19), some (.int 6)]) (S1 := [.int 0, .int 6]) zd0_23 rfl rfl rfl ?_
    refine z_ej (t := 1781) (t2 := 1781) zd0_24 rfl rfl ?_
    refine z_e1 (pc1 := 1782) (L1 := [some (.ref 0), some (.ref 4), some (.ref 19), some (.int 6)]) (S1 := [.int 1]) zd0_1781 rfl rfl rfl ?_
    refine z_erz zd0_1782 zr0 (by decide) ?_
    exact z_K1i (z_nl (z_nl hN)) (z_szs (z_gn (by decide) b19) rfl (z_szs b13 rfl hS)) (by decide) (by decide)
  · refine z_ez (t := 12) (t2 := 4) zd84_1 rfl (z_b_ltx0 (k := 0) (by decide) e1) ?_
    refine z_e1 (pc1 := 5) (L1 := [some (.ref 4), some (.int x1)]) (S1 := [.int x1]) zd84_4 rfl rfl rfl ?_
    refine z_e1 (pc1 := 6) (L1 := [some (.ref 4), some (.int x1)]) (S1 := [.ref 4, .int x1]) zd84_5 rfl rfl rfl ?_
    refine z_egf (fs := [.ref 5, .ref 10, .ref 11, .int 0, .ref 12, .int 0, .ref 13, .ref 14, .ref 15, .ref 16, .ref 17, .ref 18, .null]) (v := .int 0) zd84_6 zf84_188 (z_gn (by decide) b4) (by decide) (by decide) rfl ?_
    refine z_ej (t := 16) (t2 := 12) zd84_9 rfl (z_b_ltx0 (k := 0) (by decide) (show ¬ x1.toInt < 0 from by omega)) ?_
    refine z_e1 (pc1 := 13) (L1 := [some (.ref 4), some (.int x1)]) (S1 := [.null]) zd84_12 rfl rfl rfl ?_
    refine z_e1 (pc1 := 22) (L1 := [some (.ref 4), some (.int x1)]) (S1 := [.null]) zd84_13 rfl rfl rfl ?_
    refine z_ern zd84_22 zr84 ?_
    show z_ev _ 159 12 [some (.ref 4), some (.int x1), some (.int x2), some (.int x3), none] [.null] _ _
    refine z_e1 (pc1 := 14) (L1 := [some (.ref 4), some (.int x1), some (.int x2), some (.int x3), some (.null)]) (S1 := []) zd159_12 rfl rfl rfl ?_
    refine z_e1 (pc1 := 16) (L1 := [some (.ref 4), some (.int x1), some (.int x2), some (.int x3), some (.null)]) (S1 := [.null]) zd159_14 rfl rfl rfl ?_
    refine z_e1 (pc1 := 19) (L1 := [some (.ref 4), some (.int x1), some (.int x2), some (.int x3), some (.null)]) (S1 := []) zd159_16 rfl rfl rfl ?_
    refine z_e1 (pc1 := 20) (L1 := [some (.ref 4), some (.int x1), some (.int x2), some (.int x3), some (.null)]) (S1 := [.int 0]) zd159_19 rfl rfl rfl ?_
    refine z_eri zd159_20 zr159 ?_
    show z_ev _ 0 1426 [some (.ref 0), some (.ref 4), some (.ref 19), some (.int 0)] [.int 0] _ _
    refine z_e1 (pc1 := 1427) (L1 := [some (.ref 0), some (.ref 4), some (.ref 19), some (.int 0)]) (S1 := [.ref 19, .int 0]) zd0_1426 rfl rfl rfl ?_
    refine z_e1 (pc1 := 1428) (L1 := [some (.ref 0), some (.ref 4), some (.ref 19), some (.int 0)]) (S1 := [.ref 0, .ref 19, .int 0]) zd0_1427 rfl rfl rfl ?_
    refine z_e1 (pc1 := 1429) (L1 := [some (.ref 0), some (.ref 4), some (.ref 19), some (.int 0)]) (S1 := [.int 0, .ref 0, .ref 19, .int 0]) zd0_1428 rfl rfl rfl ?_
    refine z_e1 (pc1 := 1430) (L1 := [some (.ref 0), some (.ref 4), some (.ref 19), some (.int 0)]) (S1 := [.int 1, .int 0, .ref 0, .ref 19, .int 0]) zd0_1429 rfl rfl rfl ?_
    refine z_e1 (pc1 := 1431) (L1 := [some (.ref 0), some (.ref 4), some (.ref 19), some (.int 0)]) (S1 := [.int 1, .ref 0, .ref 19, .int 0]) zd0_1430 rfl rfl rfl ?_
    refine z_eial (y := x1) zd0_1431 (z_gn (by decide) h0) (by decide) g1 ?_
    refine z_e1 (pc1 := 1433) (L1 := [some (.ref 0), some (.ref 4), some (.ref 19), some (.int 0)]) (S1 := [.ref 0, .int x1, .ref 19, .int 0]) zd0_1432 rfl rfl rfl ?_
    refine z_e1 (pc1 := 1434) (L1 := [some (.ref 0), some (.ref 4), some (.ref 19), some (.int 0)]) (S1 := [.int 0, .ref 0, .int x1, .ref 19, .int 0]) zd0_1433 rfl rfl rfl ?_
    refine z_e1 (pc1 := 1435) (L1 := [some (.ref 0), some (.ref 4), some (.ref 19), some (.int 0)]) (S1 := [.int 2, .int 0, .ref 0, .int x1, .ref 19, .int 0]) zd0_1434 rfl rfl rfl ?_
    refine z_e1 (pc1 := 1436) (L1 := [some (.ref 0), some (.ref 4), some (.ref 19), some (.int 0)]) (S1 := [.int 2, .ref 0, .int x1, .ref 19, .int 0]) zd0_1435 rfl rfl rfl ?_
    refine z_eial (y := x2) zd0_1436 (z_gn (by decide) h0) (by decide) g2 ?_
    refine z_e1 (pc1 := 1438) (L1 := [some (.ref 0), some (.ref 4), some (.ref 19), some (.int 0)]) (S1 := [.ref 0, .int x2, .int x1, .ref 19, .int 0]) zd0_1437 rfl rfl rfl ?_
    refine z_e1 (pc1 := 1439) (L1 := [some (.ref 0), some (.ref 4), some (.ref 19), some (.int 0)]) (S1 := [.int 0, .ref 0, .int x2, .int x1, .ref 19, .int 0]) zd0_1438 rfl rfl rfl ?_
    refine z_e1 (pc1 := 1440) (L1 := [some (.ref 0), some (.ref 4), some (.ref 19), some (.int 0)]) (S1 := [.int 3, .int 0, .ref 0, .int x2, .int x1, .ref 19, .int 0]) zd0_1439 rfl rfl rfl ?_
    refine z_e1 (pc1 := 1441) (L1 := [some (.ref 0), some (.ref 4), some (.ref 19), some (.int 0)]) (S1 := [.int 3, .ref 0, .int x2, .int x1, .ref 19, .int 0]) zd0_1440 rfl rfl rfl ?_
    refine z_eial (y := x3) zd0_1441 (z_gn (by decide) h0) (by decide) g3 ?_
    refine z_ecV (vs := [.ref 19, .int x1, .int x2, .int x3]) (r := [.int 0]) (L2 := [some (.ref 19), some (.int x1), some (.int x2), some (.int x3)]) zd0_1442 zcV0_138 (Or.inl rfl) rfl (z_gn (by decide) b19) (by decide) rfl rfl rfl (Nat.le_of_ble_eq_true rfl) zm276 (Nat.le_of_ble_eq_true rfl) rfl ?_
    refine z_e1 (pc1 := 1) (L1 := [some (.ref 19), some (.int x1), some (.int x2), some (.int x3)]) (S1 := [.ref 19]) zd276_0 rfl rfl rfl ?_
    refine z_e1 (pc1 := 2) (L1 := [some (.ref 19), some (.int x1), some (.int x2), some (.int x3)]) (S1 := [.int 0, .ref 19]) zd276_1 rfl rfl rfl ?_
    refine z_epf (fs := [.ref 20, .int 0, .ref 21, .ref 22, .ref 23, .ref 24, .ref 25, .ref 26, .ref 27, .ref 28, .ref 29, .ref 30, .ref 31, .int 0, .ref 32, .ref 33, .ref 34, .ref 35, .ref 36, .ref 37, .ref 38, .int 0, .int 0, .int 0, .int 0, .int 0, .int 0, .int 0, .int 0, .int 0, .int 0, .ref 39, .ref 40, .ref 41, .int 0, .int 0, .ref 42, .ref 43, .ref 44, .ref 45, .ref 46, .int 0, .ref 47, .int 0, .int 0, .int 0, .ref 48, .int 0, .int 0, .ref 49, .ref 50, .ref 51, .ref 52]) zd276_2 zf276_381 (z_gn (by decide) b19) (by decide) (by decide) rfl (Nat.le_of_ble_eq_true rfl) (Or.inl rfl) ?_
    refine z_e1 (pc1 := 6) (L1 := [some (.ref 19), some (.int x1), some (.int x2), some (.int x3)]) (S1 := [.ref 19]) zd276_5 rfl rfl rfl ?_
    refine z_e1 (pc1 := 7) (L1 := [some (.ref 19), some (.int x1), some (.int x2), some (.int x3)]) (S1 := [.int x1, .ref 19]) zd276_6 rfl rfl rfl ?_
    refine z_ecV (vs := [.ref 19, .int x1]) (r := []) (L2 := [some (.ref 19), some (.int x1)]) zd276_7 zcV276_272 (Or.inl rfl) rfl (z_gs1 (z_gn (by decide) b19)) (by decide) rfl rfl rfl (Nat.le_of_ble_eq_true rfl) zm237 (Nat.le_of_ble_eq_true rfl) rfl ?_
    refine z_e1 (pc1 := 1) (L1 := [some (.ref 19), some (.int x1)]) (S1 := [.int x1]) zd237_0 rfl rfl rfl ?_
    refine z_ez (t := 16) (t2 := 4) zd237_1 rfl (z_b_ltx0 (k := 0) (by decide) (show ¬ x1.toInt < 0 from by omega)) ?_
    refine z_e1 (pc1 := 5) (L1 := [some (.ref 19), some (.int x1)]) (S1 := [.int x1]) zd237_4 rfl rfl rfl ?_
    refine z_e1 (pc1 := 6) (L1 := [some (.ref 19), some (.int x1)]) (S1 := [.ref 19, .int x1]) zd237_5 rfl rfl rfl ?_
    refine z_egf (fs := [.ref 20, .int 0, .ref 21, .ref 22, .ref 23, .ref 24, .ref 25, .ref 26, .ref 27, .ref 28, .ref 29, .ref 30, .ref 31, .int 0, .ref 32, .ref 33, .ref 34, .ref 35, .ref 36, .ref 37, .ref 38, .int 0, .int 0, .int 0, .int 0, .int 0, .int 0, .int 0, .int 0, .int 0, .int 0, .ref 39, .ref 40, .ref 41, .int 0, .int 0, .ref 42, .ref 43, .ref 44, .ref 45, .ref 46, .int 0, .ref 47, .int 0, .int 0, .int 0, .ref 48, .int 0, .int 0, .ref 49, .ref 50, .ref 51, .ref 52]) (v := .int 0) zd237_6 zf237_269 (z_gs1 (z_gn (by decide) b19)) (by decide) (by decide) rfl ?_
    refine z_ej (t := 16) (t2 := 16) zd237_9 rfl (z_b_gex0 (k := 0) (by decide) (show ¬ x1.toInt < 0 from by omega)) ?_
    refine z_e1 (pc1 := 17) (L1 := [some (.ref 19), some (.int x1)]) (S1 := [.int 0]) zd237_16 rfl rfl rfl ?_
    refine z_erz zd237_17 zr237 (by decide) ?_
    show z_ev _ 276 10 [some (.ref 19), some (.int x1), some (.int x2), some (.int x3)] [.int 0] _ _
    refine z_ez (t := 25) (t2 := 25) zd276_10 rfl rfl ?_
    refine z_e1 (pc1 := 26) (L1 := [some (.ref 19), some (.int x1), some (.int x2), some (.int x3)]) (S1 := [.int 0]) zd276_25 rfl rfl rfl ?_
    refine z_eri zd276_26 zr276 ?_
    show z_ev _ 0 1445 [some (.ref 0), some (.ref 4), some (.ref 19), some (.int 0)] [.int 0, .int 0] _ _
    refine z_ej (t := 1775) (t2 := 1775) zd0_1445 rfl rfl ?_
    refine z_e1 (pc1 := 1778) (L1 := [some (.ref 0), some (.ref 4), some (.ref 19), some (.int 6)]) (S1 := []) zd0_1775 rfl rfl rfl ?_
    refine z_e1 (pc1 := 18) (L1 := [some (.ref 0), some (.ref 4), some (.ref 19), some (.int 6)]) (S1 := []) zd0_1778 rfl rfl rfl ?_
    refine z_e1 (pc1 := 19) (L1 := [some (.ref 0), some (.ref 4), some (.ref 19), some (.int 6)]) (S1 := [.int 6]) zd0_18 rfl rfl rfl ?_
    refine z_e1 (pc1 := 20) (L1 := [some (.ref 0), some (.ref 4), some (.ref 19), some (.int 6)]) (S1 := [.ref 0, .int 6]) zd0_19 rfl rfl rfl ?_
    refine z_ealn (y := 6) zd0_20 (z_gn (by decide) (z_gn (by decide) h0)) rfl ?_
    refine z_e1 (pc1 := 23) (L1 := [some (.ref 0), some (.ref 4), some (.ref 19), some (.int 6)]) (S1 := [.int 6, .int 6, .int 6]) zd0_21 rfl rfl rfl ?_
    refine z_e1 (pc1 := 24) (L1 := [some (.ref 0), some (.ref 4), some (.ref 19), some (.int 6)]) (S1 := [.int 0, .int 6]) zd0_23 rfl rfl rfl ?_
    refine z_ej (t := 1781) (t2 := 1781) zd0_24 rfl rfl ?_
    refine z_e1 (pc1 := 1782) (L1 := [some (.ref 0), some (.ref 4), some (.ref 19), some (.int 6)]) (S1 := [.int 1]) zd0_1781 rfl rfl rfl ?_
    refine z_erz zd0_1782 zr0 (by decide) ?_
    exact z_K1i (z_nl (z_nl hN)) (z_szs (z_gn (by decide) b19) rfl (z_szs b13 rfl hS)) (by decide) (by decide)
theorem z_C30 {M : zH} {xs : Nat → Int32} {x1 x2 x3 x4 x5 : Int32} (h0 : M[0]? = some (.inl (0, 6, .inl xs))) (hN : M.length = 53) (hS : z_sz M ≤ 50000) (hB : z_fr M 4 53) (g1 : xs 1 = x1) (g2 : xs 2 = x2) (g3 : xs 3 = x3) (g4 : xs 4 = x4) (g5 : xs 5 = x5) : z_ev 2047 0 1450 [some (.ref 0), some (.ref 4), some (.ref 19), some (.int 0)] [] M z_K1 := by
  have b4 := z_qO (hB 4 (by decide) (by decide))
  obtain ⟨f13, b13, c13⟩ := z_qI (hB 13 (by decide) (by decide))
  have b19 := z_qO (hB 19 (by decide) (by decide))
  refine z_e1 (pc1 := 1451) (L1 := [some (.ref 0), some (.ref 4), some (.ref 19), some (.int 0)]) (S1 := [.ref 4]) zd0_1450 rfl rfl rfl ?_
  refine z_e1 (pc1 := 1452) (L1 := [some (.ref 0), some (.ref 4), some (.ref 19), some (.int 0)]) (S1 := [.ref 0, .ref 4]) zd0_1451 rfl rfl rfl ?_
  refine z_e1 (pc1 := 1453) (L1 := [some (.ref 0), some (.ref 4), some (.ref 19), some (.int 0)]) (S1 := [.int 0, .ref 0, .ref 4]) zd0_1452 rfl rfl rfl ?_
  refine z_e1 (pc1 := 1454) (L1 := [some (.ref 0), some (.ref 4), some (.ref 19), some (.int 0)]) (S1 := [.int 1, .int 0, .ref 0, .ref 4]) zd0_1453 rfl rfl rfl ?_
  refine z_e1 (pc1 := 1455) (L1 := [some (.ref 0), some (.ref 4), some (.ref 19), some (.int 0)]) (S1 := [.int 1, .ref 0, .ref 4]) zd0_1454 rfl rfl rfl ?_
  refine z_eial (y := x1) zd0_1455 h0 (by decide) g1 ?_
  refine z_ecV (vs := [.ref 4, .int x1]) (r := []) (L2 := [some (.ref 4), some (.int x1)]) zd0_1456 zcV0_139 (Or.inl rfl) rfl b4 (by decide) rfl rfl rfl (Nat.le_of_ble_eq_true rfl) zm174 (Nat.le_of_ble_eq_true rfl) rfl ?_
  refine z_e1 (pc1 := 1) (L1 := [some (.ref 4), some (.int x1)]) (S1 := [.int x1]) zd174_0 rfl rfl rfl ?_
  by_cases e1 : x1.toInt < 0
  · refine z_ez (t := 20) (t2 := 20) zd174_1 rfl (z_b_ltx1 (k := 0) (by decide) e1) ?_
    refine z_e1 (pc1 := 21) (L1 := [some (.ref 4), some (.int x1)]) (S1 := [.int (-1)]) zd174_20 rfl rfl rfl ?_
    refine z_eri zd174_21 zr174 ?_
    show z_ev _ 0 1459 [some (.ref 0), some (.ref 4), some (.ref 19), some (.int 0)] [.int (-1)] _ _
    refine z_e1 (pc1 := 1460) (L1 := [some (.ref 0), some (.ref 4), some (.ref 19), some (.int 0)]) (S1 := [.ref 19, .int (-1)]) zd0_1459 rfl rfl rfl ?_
    refine z_e1 (pc1 := 1461) (L1 := [some (.ref 0), some (.ref 4), some (.ref 19), some (.int 0)]) (S1 := [.ref 0, .ref 19, .int (-1)]) zd0_1460 rfl rfl rfl ?_
    refine z_e1 (pc1 := 1462) (L1 := [some (.ref 0), some (.ref 4), some (.ref 19), some (.int 0)]) (S1 := [.int 0, .ref 0, .ref 19, .int (-1)]) zd0_1461 rfl rfl rfl ?_
    refine z_e1 (pc1 := 1463) (L1 := [some (.ref 0), some (.ref 4), some (.ref 19), some (.int 0)]) (S1 := [.int 1, .int 0, .ref 0, .ref 19, .int (-1)]) zd0_1462 rfl rfl rfl ?_
    refine z_e1 (pc1 := 1464) (L1 := [some (.ref 0), some (.ref 4), some (.ref 19), some (.int 0)]) (S1 := [.int 1, .ref 0, .ref 19, .int (-1)]) zd0_1463 rfl rfl rfl ?_
    refine z_eial (y := x1) zd0_1464 h0 (by decide) g1 ?_
    refine z_ecV (vs := [.ref 19, .int x1]) (r := [.int (-1)]) (L2 := [some (.ref 19), some (.int x1)]) zd0_1465 zcV0_142 (Or.inl rfl) rfl b19 (by decide) rfl rfl rfl (Nat.le_of_ble_eq_true rfl) zm283 (Nat.le_of_ble_eq_true rfl) rfl ?_
    refine z_e1 (pc1 := 1) (L1 := [some (.ref 19), some (.int x1)]) (S1 := [.int x1]) zd283_0 rfl rfl rfl ?_
    refine z_ez (t := 27) (t2 := 27) zd283_1 rfl (z_b_ltx1 (k := 0) (by decide) (show x1.toInt < 0 from by omega)) ?_
    refine z_e1 (pc1 := 28) (L1 := [some (.ref 19), some (.int x1)]) (S1 := [.int (-1)]) zd283_27 rfl rfl rfl ?_
    refine z_eri zd283_28 zr283 ?_
    show z_ev _ 0 1468 [some (.ref 0), some (.ref 4), some (.ref 19), some (.int 0)] [.int (-1), .int (-1)] _ _
    refine z_ej (t := 1775) (t2 := 1775) zd0_1468 rfl rfl ?_
    refine z_e1 (pc1 := 1778) (L1 := [some (.ref 0), some (.ref 4), some (.ref 19), some (.int 6)]) (S1 := []) zd0_1775 rfl rfl rfl ?_
    refine z_e1 (pc1 := 18) (L1 := [some (.ref 0), some (.ref 4), some (.ref 19), some (.int 6)]) (S1 := []) zd0_1778 rfl rfl rfl ?_
    refine z_e1 (pc1 := 19) (L1 := [some (.ref 0), some (.ref 4), some (.ref 19), some (.int 6)]) (S1 := [.int 6]) zd0_18 rfl rfl rfl ?_
    refine z_e1 (pc1 := 20) (L1 := [some (.ref 0), some (.ref 4), some (.ref 19), some (.int 6)]) (S1 := [.ref 0, .int 6]) zd0_19 rfl rfl rfl ?_
    refine z_ealn (y := 6) zd0_20 h0 rfl ?_
    refine z_e1 (pc1 := 23) (L1 := [some (.ref 0), some (.ref 4), some (.ref 19), some (.int 6)]) (S1 := [.int 6, .int 6, .int 6]) zd0_21 rfl rfl rfl ?_
    refine z_e1 (pc1 := 24) (L1 := [some (.ref 0), some (.ref 4), some (.ref 19), some (.int 6)]) (S1 := [.int 0, .int 6]) zd0_23 rfl rfl rfl ?_
    refine z_ej (t := 1781) (t2 := 1781) zd0_24 rfl rfl ?_
    refine z_e1 (pc1 := 1782) (L1 := [some (.ref 0), some (.ref 4), some (.ref 19), some (.int 6)]) (S1 := [.int 1]) zd0_1781 rfl rfl rfl ?_
    refine z_erz zd0_1782 zr0 (by decide) ?_
    exact z_K1i hN hS (by decide) (by decide)
  · refine z_ez (t := 20) (t2 := 4) zd174_1 rfl (z_b_ltx0 (k := 0) (by decide) e1) ?_
    refine z_e1 (pc1 := 5) (L1 := [some (.ref 4), some (.int x1)]) (S1 := [.int x1]) zd174_4 rfl rfl rfl ?_
    refine z_e1 (pc1 := 6) (L1 := [some (.ref 4), some (.int x1)]) (S1 := [.ref 4, .int x1]) zd174_5 rfl rfl rfl ?_
    refine z_egf (fs := [.ref 5, .ref 10, .ref 11, .int 0, .ref 12, .int 0, .ref 13, .ref 14, .ref 15, .ref 16, .ref 17, .ref 18, .null]) (v := .ref 13) zd174_6 zf174_31 b4 (by decide) (by decide) rfl ?_
    refine z_e1 (pc1 := 10) (L1 := [some (.ref 4), some (.int x1)]) (S1 := [.int 0, .ref 13, .int x1]) zd174_9 rfl rfl rfl ?_
    refine z_eial (y := 0) zd174_10 b13 (by decide) (c13 0 (by decide)) ?_
    refine z_ej (t := 20) (t2 := 20) zd174_11 rfl (z_b_gex0 (k := 0) (by decide) (show ¬ x1.toInt < 0 from by omega)) ?_
    refine z_e1 (pc1 := 21) (L1 := [some (.ref 4), some (.int x1)]) (S1 := [.int (-1)]) zd174_20 rfl rfl rfl ?_
    refine z_eri zd174_21 zr174 ?_
    show z_ev _ 0 1459 [some (.ref 0), some (.ref 4), some (.ref 19), some (.int 0)] [.int (-1)] _ _
    refine z_e1 (pc1 := 1460) (L1 := [some (.ref 0), some (.ref 4), some (.ref 19), some (.int 0)]) (S1 := [.ref 19, .int (-1)]) zd0_1459 rfl rfl rfl ?_
    refine z_e1 (pc1 := 1461) (L1 := [some (.ref 0), some (.ref 4), some (.ref 19), some (.int 0)]) (S1 := [.ref 0, .ref 19, .int (-1)]) zd0_1460 rfl rfl rfl ?_
    refine z_e1 (pc1 := 1462) (L1 := [some (.ref 0), some (.ref 4), some (.ref 19), some (.int 0)]) (S1 := [.int 0, .ref 0, .ref 19, .int (-1)]) zd0_1461 rfl rfl rfl ?_
    refine z_e1 (pc1 := 1463) (L1 := [some (.ref 0), some (.ref 4), some (.ref 19), some (.int 0)]) (S1 := [.int 1, .int 0, .ref 0, .ref 19, .int (-1)]) zd0_1462 rfl rfl rfl ?_
    refine z_e1 (pc1 := 1464) (L1 := [some (.ref 0), some (.ref 4), some (.ref 19), some (.int 0)]) (S1 := [.int 1, .ref 0, .ref 19, .int (-1)]) zd0_1463 rfl rfl rfl ?_
    refine z_eial (y := x1) zd0_1464 h0 (by decide) g1 ?_
    refine z_ecV (vs := [.ref 19, .int x1]) (r := [.int (-1)]) (L2 := [some (.ref 19), some (.int x1)]) zd0_1465 zcV0_142 (Or.inl rfl) rfl b19 (by decide) rfl rfl rfl (Nat.le_of_ble_eq_true rfl) zm283 (Nat.le_of_ble_eq_true rfl) rfl ?_
    refine z_e1 (pc1 := 1) (L1 := [some (.ref 19), some (.int x1)]) (S1 := [.int x1]) zd283_0 rfl rfl rfl ?_
    refine z_ez (t := 27) (t2 := 4) zd283_1 rfl (z_b_ltx0 (k := 0) (by decide) (show ¬ x1.toInt < 0 from by omega)) ?_
    refine z_e1 (pc1 := 5) (L1 := [some (.ref 19), some (.int x1)]) (S1 := [.int x1]) zd283_4 rfl rfl rfl ?_
    refine z_e1 (pc1 := 6) (L1 := [some (.ref 19), some (.int x1)]) (S1 := [.ref 19, .int x1]) zd283_5 rfl rfl rfl ?_
    refine z_egf (fs := [.ref 20, .int 0, .ref 21, .ref 22, .ref 23, .ref 24, .ref 25, .ref 26, .ref 27, .ref 28, .ref 29, .ref 30, .ref 31, .int 0, .ref 32, .ref 33, .ref 34, .ref 35, .ref 36, .ref 37, .ref 38, .int 0, .int 0, .int 0, .int 0, .int 0, .int 0, .int 0, .int 0, .int 0, .int 0, .ref 39, .ref 40, .ref 41, .int 0, .int 0, .ref 42, .ref 43, .ref 44, .ref 45, .ref 46, .int 0, .ref 47, .int 0, .int 0, .int 0, .ref 48, .int 0, .int 0, .ref 49, .ref 50, .ref 51, .ref 52]) (v := .int 0) zd283_6 zf283_381 b19 (by decide) (by decide) rfl ?_
    refine z_ej (t := 27) (t2 := 27) zd283_9 rfl (z_b_gex0 (k := 0) (by decide) (show ¬ x1.toInt < 0 from by omega)) ?_
    refine z_e1 (pc1 := 28) (L1 := [some (.ref 19), some (.int x1)]) (S1 := [.int (-1)]) zd283_27 rfl rfl rfl ?_
    refine z_eri zd283_28 zr283 ?_
    show z_ev _ 0 1468 [some (.ref 0), some (.ref 4), some (.ref 19), some (.int 0)] [.int (-1), .int (-1)] _ _
    refine z_ej (t := 1775) (t2 := 1775) zd0_1468 rfl rfl ?_
    refine z_e1 (pc1 := 1778) (L1 := [some (.ref 0), some (.ref 4), some (.ref 19), some (.int 6)]) (S1 := []) zd0_1775 rfl rfl rfl ?_
    refine z_e1 (pc1 := 18) (L1 := [some (.ref 0), some (.ref 4), some (.ref 19), some (.int 6)]) (S1 := []) zd0_1778 rfl rfl rfl ?_
    refine z_e1 (pc1 := 19) (L1 := [some (.ref 0), some (.ref 4), some (.ref 19), some (.int 6)]) (S1 := [.int 6]) zd0_18 rfl rfl rfl ?_
    refine z_e1 (pc1 := 20) (L1 := [some (.ref 0), some (.ref 4), some (.ref 19), some (.int 6)]) (S1 := [.ref 0, .int 6]) zd0_19 rfl rfl rfl ?_
    refine z_ealn (y := 6) zd0_20 h0 rfl ?_
    refine z_e1 (pc1 := 23) (L1 := [some (.ref 0), some (.ref 4), some (.ref 19), some (.int 6)]) (S1 := [.int 6, .int 6, .int 6]) zd0_21 rfl rfl rfl ?_
    refine z_e1 (pc1 := 24) (L1 := [some (.ref 0), some (.ref 4), some (.ref 19), some (.int 6)]) (S1 := [.int 0, .int 6]) zd0_23 rfl rfl rfl ?_
    refine z_ej (t := 1781) (t2 := 1781) zd0_24 rfl rfl ?_
    refine z_e1 (pc1 := 1782) (L1 := [some (.ref 0), some (.ref 4), some (.ref 19), some (.int 6)]) (S1 := [.int 1]) zd0_1781 rfl rfl rfl ?_
    refine z_erz zd0_1782 zr0 (by decide) ?_
    exact z_K1i hN hS (by decide) (by decide)
theorem z_C31 {M : zH} {xs : Nat → Int32} {x1 x2 x3 x4 x5 : Int32} (h0 : M[0]? = some (.inl (0, 6, .inl xs))) (hN : M.length = 53) (hS : z_sz M ≤ 50000) (hB : z_fr M 4 53) (g1 : xs 1 = x1) (g2 : xs 2 = x2) (g3 : xs 3 = x3) (g4 : xs 4 = x4) (g5 : xs 5 = x5) : z_ev 2047 0 1473 [some (.ref 0), some (.ref 4), some (.ref 19), some (.int 0)] [] M z_K1 := by
  have b4 := z_qO (hB 4 (by decide) (by decide))
  obtain ⟨f14, b14, c14⟩ := z_qI (hB 14 (by decide) (by decide))
  obtain ⟨f17, b17, c17⟩ := z_qR (by decide) (hB 17 (by decide) (by decide))
  have b19 := z_qO (hB 19 (by decide) (by decide))
  obtain ⟨f49, b49, c49⟩ := z_qI (hB 49 (by decide) (by decide))
  obtain ⟨f50, b50, c50⟩ := z_qI (hB 50 (by decide) (by decide))
  refine z_e1 (pc1 := 1474) (L1 := [some (.ref 0), some (.ref 4), some (.ref 19), some (.int 0)]) (S1 := [.ref 4]) zd0_1473 rfl rfl rfl ?_
  refine z_e1 (pc1 := 1475) (L1 := [some (.ref 0), some (.ref 4), some (.ref 19), some (.int 0)]) (S1 := [.ref 0, .ref 4]) zd0_1474 rfl rfl rfl ?_
  refine z_e1 (pc1 := 1476) (L1 := [some (.ref 0), some (.ref 4), some (.ref 19), some (.int 0)]) (S1 := [.int 0, .ref 0, .ref 4]) zd0_1475 rfl rfl rfl ?_
  refine z_e1 (pc1 := 1477) (L1 := [some (.ref 0), some (.ref 4), some (.ref 19), some (.int 0)]) (S1 := [.int 1, .int 0, .ref 0, .ref 4]) zd0_1476 rfl rfl rfl ?_
  refine z_e1 (pc1 := 1478) (L1 := [some (.ref 0), some (.ref 4), some (.ref 19), some (.int 0)]) (S1 := [.int 1, .ref 0, .ref 4]) zd0_1477 rfl rfl rfl ?_
  refine z_eial (y := x1) zd0_1478 h0 (by decide) g1 ?_
  refine z_e1 (pc1 := 1480) (L1 := [some (.ref 0), some (.ref 4), some (.ref 19), some (.int 0)]) (S1 := [.ref 0, .int x1, .ref 4]) zd0_1479 rfl rfl rfl ?_
  refine z_e1 (pc1 := 1481) (L1 := [some (.ref 0), some (.ref 4), some (.ref 19), some (.int 0)]) (S1 := [.int 0, .ref 0, .int x1, .ref 4]) zd0_1480 rfl rfl rfl ?_
  refine z_e1 (pc1 := 1482) (L1 := [some (.ref 0), some (.ref 4), some (.ref 19), some (.int 0)]) (S1 := [.int 2, .int 0, .ref 0, .int x1, .ref 4]) zd0_1481 rfl rfl rfl ?_
  refine z_e1 (pc1 := 1483) (L1 := [some (.ref 0), some (.ref 4), some (.ref 19), some (.int 0)]) (S1 := [.int 2, .ref 0, .int x1, .ref 4]) zd0_1482 rfl rfl rfl ?_
  refine z_eial (y := x2) zd0_1483 h0 (by decide) g2 ?_
  refine z_ecV (vs := [.ref 4, .int x1, .int x2]) (r := []) (L2 := [some (.ref 4), some (.int x1), some (.int x2)]) zd0_1484 zcV0_143 (Or.inl rfl) rfl b4 (by decide) rfl rfl rfl (Nat.le_of_ble_eq_true rfl) zm175 (Nat.le_of_ble_eq_true rfl) rfl ?_
  refine z_e1 (pc1 := 1) (L1 := [some (.ref 4), some (.int x1), some (.int x2)]) (S1 := [.int x1]) zd175_0 rfl rfl rfl ?_
  refine z_ecS (vs := [.int x1]) (r := []) (L2 := [some (.int x1)]) zd175_1 zcS175_148 (Or.inl rfl) (Nat.le_of_ble_eq_true rfl) rfl rfl (Nat.le_of_ble_eq_true rfl) zm58 (Nat.le_of_ble_eq_true rfl) rfl ?_
  refine z_e1 (pc1 := 1) (L1 := [some (.int x1)]) (S1 := [.int x1]) zd58_0 rfl rfl rfl ?_
  by_cases e1 : x1.toInt < 0
  · refine z_ez (t := 14) (t2 := 14) zd58_1 rfl (z_b_ltx1 (k := 0) (by decide) e1) ?_
    refine z_e1 (pc1 := 15) (L1 := [some (.int x1)]) (S1 := [.int 0]) zd58_14 rfl rfl rfl ?_
    refine z_erz zd58_15 zr58 (by decide) ?_
    show z_ev _ 175 4 [some (.ref 4), some (.int x1), some (.int x2)] [.int 0] _ _
    refine z_ez (t := 9) (t2 := 7) zd175_4 rfl rfl ?_
    refine z_e1 (pc1 := 8) (L1 := [some (.ref 4), some (.int x1), some (.int x2)]) (S1 := [.int (-1)]) zd175_7 rfl rfl rfl ?_
    refine z_eri zd175_8 zr175 ?_
    show z_ev _ 0 1487 [some (.ref 0), some (.ref 4), some (.ref 19), some (.int 0)] [.int (-1)] _ _
    refine z_e1 (pc1 := 1488) (L1 := [some (.ref 0), some (.ref 4), some (.ref 19), some (.int 0)]) (S1 := [.ref 19, .int (-1)]) zd0_1487 rfl rfl rfl ?_
    refine z_e1 (pc1 := 1489) (L1 := [some (.ref 0), some (.ref 4), some (.ref 19), some (.int 0)]) (S1 := [.ref 0, .ref 19, .int (-1)]) zd0_1488 rfl rfl rfl ?_
    refine z_e1 (pc1 := 1490) (L1 := [some (.ref 0), some (.ref 4), some (.ref 19), some (.int 0)]) (S1 := [.int 0, .ref 0, .ref 19, .int (-1)]) zd0_1489 rfl rfl rfl ?_
    refine z_e1 (pc1 := 1491) (L1 := [some (.ref 0), some (.ref 4), some (.ref 19), some (.int 0)]) (S1 := [.int 1, .int 0, .ref 0, .ref 19, .int (-1)]) zd0_1490 rfl rfl rfl ?_
    refine z_e1 (pc1 := 1492) (L1 := [some (.ref 0), some (.ref 4), some (.ref 19), some (.int 0)]) (S1 := [.int 1, .ref 0, .ref 19, .int (-1)]) zd0_1491 rfl rfl rfl ?_
    refine z_eial (y := x1) zd0_1492 h0 (by decide) g1 ?_
    refine z_e1 (pc1 := 1494) (L1 := [some (.ref 0), some (.ref 4), some (.ref 19), some (.int 0)]) (S1 := [.ref 0, .int x1, .ref 19, .int (-1)]) zd0_1493 rfl rfl rfl ?_
    refine z_e1 (pc1 := 1495) (L1 := [some (.ref 0), some (.ref 4), some (.ref 19), some (.int 0)]) (S1 := [.int 0, .ref 0, .int x1, .ref 19, .int (-1)]) zd0_1494 rfl rfl rfl ?_
    refine z_e1 (pc1 := 1496) (L1 := [some (.ref 0), some (.ref 4), some (.ref 19), some (.int 0)]) (S1 := [.int 2, .int 0, .ref 0, .int x1, .ref 19, .int (-1)]) zd0_1495 rfl rfl rfl ?_
    refine z_e1 (pc1 := 1497) (L1 := [some (.ref 0), some (.ref 4), some (.ref 19), some (.int 0)]) (S1 := [.int 2, .ref 0, .int x1, .ref 19, .int (-1)]) zd0_1496 rfl rfl rfl ?_
    refine z_eial (y := x2) zd0_1497 h0 (by decide) g2 ?_
    refine z_ecV (vs := [.ref 19, .int x1, .int x2]) (r := [.int (-1)]) (L2 := [some (.ref 19), some (.int x1), some (.int x2)]) zd0_1498 zcV0_146 (Or.inl rfl) rfl b19 (by decide) rfl rfl rfl (Nat.le_of_ble_eq_true rfl) zm284 (Nat.le_of_ble_eq_true rfl) rfl ?_
    refine z_e1 (pc1 := 1) (L1 := [some (.ref 19), some (.int x1), some (.int x2)]) (S1 := [.int x1]) zd284_0 rfl rfl rfl ?_
    refine z_ecS (vs := [.int x1]) (r := []) (L2 := [some (.int x1)]) zd284_1 zcS284_237 (Or.inl rfl) (Nat.le_of_ble_eq_true rfl) rfl rfl (Nat.le_of_ble_eq_true rfl) zm225 (Nat.le_of_ble_eq_true rfl) rfl ?_
    refine z_e1 (pc1 := 1) (L1 := [some (.int x1)]) (S1 := [.int x1]) zd225_0 rfl rfl rfl ?_
    refine z_e1 (pc1 := 2) (L1 := [some (.int x1)]) (S1 := [.long ((x1 : Int32).toInt64)]) zd225_1 rfl rfl rfl ?_
    refine z_e1 (pc1 := 3) (L1 := [some (.int x1)]) (S1 := [.long 0, .long ((x1 : Int32).toInt64)]) zd225_2 rfl rfl rfl ?_
    refine z_eld2 zd225_3 zl225_318 ?_
    refine z_ecS (vs := [.long ((x1 : Int32).toInt64), .long 0, .long 5]) (r := []) (L2 := [some (.long ((x1 : Int32).toInt64)), none, some (.long 0), none, some (.long 5), none]) zd225_6 zcS225_116 (Or.inl rfl) (Nat.le_of_ble_eq_true rfl) rfl rfl (Nat.le_of_ble_eq_true rfl) zm189 (Nat.le_of_ble_eq_true rfl) rfl ?_
    refine z_e1 (pc1 := 1) (L1 := [some (.long ((x1 : Int32).toInt64)), none, some (.long 0), none, some (.long 5), none]) (S1 := [.long ((x1 : Int32).toInt64)]) zd189_0 rfl rfl rfl ?_
    refine z_e1 (pc1 := 2) (L1 := [some (.long ((x1 : Int32).toInt64)), none, some (.long 0), none, some (.long 5), none]) (S1 := [.long 0, .long ((x1 : Int32).toInt64)]) zd189_1 rfl rfl rfl ?_
    refine z_e1 (pc1 := 3) (L1 := [some (.long ((x1 : Int32).toInt64)), none, some (.long 0), none, some (.long 5), none]) (S1 := [.int (lg_cmp ((x1 : Int32).toInt64) 0)]) zd189_2 rfl rfl rfl ?_
    refine z_ez (t := 17) (t2 := 17) zd189_3 rfl (z_b_ltl1 (k := 0) (by decide) (show x1.toInt < 0 from by omega)) ?_
    refine z_e1 (pc1 := 18) (L1 := [some (.long ((x1 : Int32).toInt64)), none, some (.long 0), none, some (.long 5), none]) (S1 := [.int 0]) zd189_17 rfl rfl rfl ?_
    refine z_erz zd189_18 zr189 (by decide) ?_
    show z_ev _ 225 9 [some (.int x1)] [.int 0] _ _
    refine z_erz zd225_9 zr225 (by decide) ?_
    show z_ev _ 284 4 [some (.ref 19), some (.int x1), some (.int x2)] [.int 0] _ _
    refine z_ez (t := 20) (t2 := 20) zd284_4 rfl rfl ?_
    refine z_e1 (pc1 := 21) (L1 := [some (.ref 19), some (.int x1), some (.int x2)]) (S1 := [.int (-1)]) zd284_20 rfl rfl rfl ?_
    refine z_eri zd284_21 zr284 ?_
    show z_ev _ 0 1501 [some (.ref 0), some (.ref 4), some (.ref 19), some (.int 0)] [.int (-1), .int (-1)] _ _
    refine z_ej (t := 1775) (t2 := 1775) zd0_1501 rfl rfl ?_
    refine z_e1 (pc1 := 1778) (L1 := [some (.ref 0), some (.ref 4), some (.ref 19), some (.int 6)]) (S1 := []) zd0_1775 rfl rfl rfl ?_
    refine z_e1 (pc1 := 18) (L1 := [some (.ref 0), some (.ref 4), some (.ref 19), some (.int 6)]) (S1 := []) zd0_1778 rfl rfl rfl ?_
    refine z_e1 (pc1 := 19) (L1 := [some (.ref 0), some (.ref 4), some (.ref 19), some (.int 6)]) (S1 := [.int 6]) zd0_18 rfl rfl rfl ?_
    refine z_e1 (pc1 := 20) (L1 := [some (.ref 0), some (.ref 4), some (.ref 19), some (.int 6)]) (S1 := [.ref 0, .int 6]) zd0_19 rfl rfl rfl ?_
    refine z_ealn (y := 6) zd0_20 h0 rfl ?_
    refine z_e1 (pc1 := 23) (L1 := [some (.ref 0), some (.ref 4), some (.ref 19), some (.int 6)]) (S1 := [.int 6, .int 6, .int 6]) zd0_21 rfl rfl rfl ?_
    refine z_e1 (pc1 := 24) (L1 := [some (.ref 0), some (.ref 4), some (.ref 19), some (.int 6)]) (S1 := [.int 0, .int 6]) zd0_23 rfl rfl rfl ?_
    refine z_ej (t := 1781) (t2 := 1781) zd0_24 rfl rfl ?_
    refine z_e1 (pc1 := 1782) (L1 := [some (.ref 0), some (.ref 4), some (.ref 19), some (.int 6)]) (S1 := [.int 1]) zd0_1781 rfl rfl rfl ?_
    refine z_erz zd0_1782 zr0 (by decide) ?_
    exact z_K1i hN hS (by decide) (by decide)
  · refine z_ez (t := 14) (t2 := 4) zd58_1 rfl (z_b_ltx0 (k := 0) (by decide) e1) ?_
    refine z_e1 (pc1 := 5) (L1 := [some (.int x1)]) (S1 := [.int x1]) zd58_4 rfl rfl rfl ?_
    refine z_e1 (pc1 := 7) (L1 := [some (.int x1)]) (S1 := [.int 6, .int x1]) zd58_5 rfl rfl rfl ?_
    by_cases e2 : x1.toInt < 6
    · refine z_ej (t := 14) (t2 := 10) zd58_7 rfl (z_b_gex1 (k := 6) (by decide) e2) ?_
      refine z_e1 (pc1 := 11) (L1 := [some (.int x1)]) (S1 := [.int 1]) zd58_10 rfl rfl rfl ?_
      refine z_e1 (pc1 := 15) (L1 := [some (.int x1)]) (S1 := [.int 1]) zd58_11 rfl rfl rfl ?_
      refine z_erz zd58_15 zr58 (by decide) ?_
      show z_ev _ 175 4 [some (.ref 4), some (.int x1), some (.int x2)] [.int 1] _ _
      refine z_ez (t := 9) (t2 := 9) zd175_4 rfl rfl ?_
      refine z_e1 (pc1 := 10) (L1 := [some (.ref 4), some (.int x1), some (.int x2)]) (S1 := [.int x2]) zd175_9 rfl rfl rfl ?_
      refine z_e1 (pc1 := 11) (L1 := [some (.ref 4), some (.int x1), some (.int x2)]) (S1 := [.int (-1), .int x2]) zd175_10 rfl rfl rfl ?_
      by_cases e3 : x2.toInt = (-1)
      · refine z_ej (t := 24) (t2 := 24) zd175_11 rfl (z_b_eqx1 (k := (-1)) (by decide) e3) ?_
        refine z_e1 (pc1 := 25) (L1 := [some (.ref 4), some (.int x1), some (.int x2)]) (S1 := [.ref 4]) zd175_24 rfl rfl rfl ?_
        refine z_egf (fs := [.ref 5, .ref 10, .ref 11, .int 0, .ref 12, .int 0, .ref 13, .ref 14, .ref 15, .ref 16, .ref 17, .ref 18, .null]) (v := .ref 17) zd175_25 zf175_45 b4 (by decide) (by decide) rfl ?_
        refine z_e1 (pc1 := 29) (L1 := [some (.ref 4), some (.int x1), some (.int x2)]) (S1 := [.int x1, .ref 17]) zd175_28 rfl rfl rfl ?_
        refine z_e1 (pc1 := 30) (L1 := [some (.ref 4), some (.int x1), some (.int x2)]) (S1 := [.ref 4, .int x1, .ref 17]) zd175_29 rfl rfl rfl ?_
        refine z_e1 (pc1 := 31) (L1 := [some (.ref 4), some (.int x1), some (.int x2)]) (S1 := [.int x2, .ref 4, .int x1, .ref 17]) zd175_30 rfl rfl rfl ?_
        refine z_ecV (vs := [.ref 4, .int x2]) (r := [.int x1, .ref 17]) (L2 := [some (.ref 4), some (.int x2)]) zd175_31 zcV175_221 (Or.inl rfl) rfl b4 (by decide) rfl rfl rfl (Nat.le_of_ble_eq_true rfl) zm84 (Nat.le_of_ble_eq_true rfl) rfl ?_
        refine z_e1 (pc1 := 1) (L1 := [some (.ref 4), some (.int x2)]) (S1 := [.int x2]) zd84_0 rfl rfl rfl ?_
        refine z_ez (t := 12) (t2 := 12) zd84_1 rfl (z_b_ltx1 (k := 0) (by decide) (show x2.toInt < 0 from by omega)) ?_
        refine z_e1 (pc1 := 13) (L1 := [some (.ref 4), some (.int x2)]) (S1 := [.null]) zd84_12 rfl rfl rfl ?_
        refine z_e1 (pc1 := 22) (L1 := [some (.ref 4), some (.int x2)]) (S1 := [.null]) zd84_13 rfl rfl rfl ?_
        refine z_ern zd84_22 zr84 ?_
        show z_ev _ 175 34 [some (.ref 4), some (.int x1), some (.int x2)] [.null, .int x1, .ref 17] _ _
        refine z_easN zd175_34 b17 (z_inr (show 0 ≤ x1.toInt by omega) (show x1.toInt < (6 : Nat) by omega)) (by decide) (by decide) ?_
        refine z_e1 (pc1 := 36) (L1 := [some (.ref 4), some (.int x1), some (.int x2)]) (S1 := [.ref 4]) zd175_35 rfl rfl rfl ?_
        refine z_egf (fs := [.ref 5, .ref 10, .ref 11, .int 0, .ref 12, .int 0, .ref 13, .ref 14, .ref 15, .ref 16, .ref 17, .ref 18, .null]) (v := .ref 14) zd175_36 zf175_35 (z_gn (by decide) b4) (by decide) (by decide) rfl ?_
        refine z_e1 (pc1 := 40) (L1 := [some (.ref 4), some (.int x1), some (.int x2)]) (S1 := [.int x1, .ref 14]) zd175_39 rfl rfl rfl ?_
        refine z_e1 (pc1 := 41) (L1 := [some (.ref 4), some (.int x1), some (.int x2)]) (S1 := [.int x2, .int x1, .ref 14]) zd175_40 rfl rfl rfl ?_
        refine z_e1 (pc1 := 42) (L1 := [some (.ref 4), some (.int x1), some (.int x2)]) (S1 := [.int (-1), .int x2, .int x1, .ref 14]) zd175_41 rfl rfl rfl ?_
        refine z_ej (t := 49) (t2 := 45) zd175_42 rfl (z_b_nex1 (k := (-1)) (by decide) (show x2.toInt = (-1) from by omega)) ?_
        refine z_e1 (pc1 := 46) (L1 := [some (.ref 4), some (.int x1), some (.int x2)]) (S1 := [.int (-1), .int x1, .ref 14]) zd175_45 rfl rfl rfl ?_
        refine z_e1 (pc1 := 50) (L1 := [some (.ref 4), some (.int x1), some (.int x2)]) (S1 := [.int (-1), .int x1, .ref 14]) zd175_46 rfl rfl rfl ?_
        refine z_eias zd175_50 (z_gn (by decide) b14) (z_inr (show 0 ≤ x1.toInt by omega) (show x1.toInt < (6 : Nat) by omega)) (by decide) ?_
        refine z_e1 (pc1 := 52) (L1 := [some (.ref 4), some (.int x1), some (.int x2)]) (S1 := [.int 1]) zd175_51 rfl rfl rfl ?_
        refine z_eri zd175_52 zr175 ?_
        show z_ev _ 0 1487 [some (.ref 0), some (.ref 4), some (.ref 19), some (.int 0)] [.int 1] _ _
        refine z_e1 (pc1 := 1488) (L1 := [some (.ref 0), some (.ref 4), some (.ref 19), some (.int 0)]) (S1 := [.ref 19, .int 1]) zd0_1487 rfl rfl rfl ?_
        refine z_e1 (pc1 := 1489) (L1 := [some (.ref 0), some (.ref 4), some (.ref 19), some (.int 0)]) (S1 := [.ref 0, .ref 19, .int 1]) zd0_1488 rfl rfl rfl ?_
        refine z_e1 (pc1 := 1490) (L1 := [some (.ref 0), some (.ref 4), some (.ref 19), some (.int 0)]) (S1 := [.int 0, .ref 0, .ref 19, .int 1]) zd0_1489 rfl rfl rfl ?_
        refine z_e1 (pc1 := 1491) (L1 := [some (.ref 0), some (.ref 4), some (.ref 19), some (.int 0)]) (S1 := [.int 1, .int 0, .ref 0, .ref 19, .int 1]) zd0_1490 rfl rfl rfl ?_
        refine z_e1 (pc1 := 1492) (L1 := [some (.ref 0), some (.ref 4), some (.ref 19), some (.int 0)]) (S1 := [.int 1, .ref 0, .ref 19, .int 1]) zd0_1491 rfl rfl rfl ?_
        refine z_eial (y := x1) zd0_1492 (z_gn (by decide) (z_gn (by decide) h0)) (by decide) g1 ?_
        refine z_e1 (pc1 := 1494) (L1 := [some (.ref 0), some (.ref 4), some (.ref 19), some (.int 0)]) (S1 := [.ref 0, .int x1, .ref 19, .int 1]) zd0_1493 rfl rfl rfl ?_
        refine z_e1 (pc1 := 1495) (L1 := [some (.ref 0), some (.ref 4), some (.ref 19), some (.int 0)]) (S1 := [.int 0, .ref 0, .int x1, .ref 19, .int 1]) zd0_1494 rfl rfl rfl ?_
        refine z_e1 (pc1 := 1496) (L1 := [some (.ref 0), some (.ref 4), some (.ref 19), some (.int 0)]) (S1 := [.int 2, .int 0, .ref 0, .int x1, .ref 19, .int 1]) zd0_1495 rfl rfl rfl ?_
        refine z_e1 (pc1 := 1497) (L1 := [some (.ref 0), some (.ref 4), some (.ref 19), some (.int 0)]) (S1 := [.int 2, .ref 0, .int x1, .ref 19, .int 1]) zd0_1496 rfl rfl rfl ?_
        refine z_eial (y := x2) zd0_1497 (z_gn (by decide) (z_gn (by decide) h0)) (by decide) g2 ?_
        refine z_ecV (vs := [.ref 19, .int x1, .int x2]) (r := [.int 1]) (L2 := [some (.ref 19), some (.int x1), some (.int x2)]) zd0_1498 zcV0_146 (Or.inl rfl) rfl (z_gn (by decide) (z_gn (by decide) b19)) (by decide) rfl rfl rfl (Nat.le_of_ble_eq_true rfl) zm284 (Nat.le_of_ble_eq_true rfl) rfl ?_
        refine z_e1 (pc1 := 1) (L1 := [some (.ref 19), some (.int x1), some (.int x2)]) (S1 := [.int x1]) zd284_0 rfl rfl rfl ?_
        refine z_ecS (vs := [.int x1]) (r := []) (L2 := [some (.int x1)]) zd284_1 zcS284_237 (Or.inl rfl) (Nat.le_of_ble_eq_true rfl) rfl rfl (Nat.le_of_ble_eq_true rfl) zm225 (Nat.le_of_ble_eq_true rfl) rfl ?_
        refine z_e1 (pc1 := 1) (L1 := [some (.int x1)]) (S1 := [.int x1]) zd225_0 rfl rfl rfl ?_
        refine z_e1 (pc1 := 2) (L1 := [some (.int x1)]) (S1 := [.long ((x1 : Int32).toInt64)]) zd225_1 rfl rfl rfl ?_
        refine z_e1 (pc1 := 3) (L1 := [some (.int x1)]) (S1 := [.long 0, .long ((x1 : Int32).toInt64)]) zd225_2 rfl rfl rfl ?_
        refine z_eld2 zd225_3 zl225_318 ?_
        refine z_ecS (vs := [.long ((x1 : Int32).toInt64), .long 0, .long 5]) (r := []) (L2 := [some (.long ((x1 : Int32).toInt64)), none, some (.long 0), none, some (.long 5), none]) zd225_6 zcS225_116 (Or.inl rfl) (Nat.le_of_ble_eq_true rfl) rfl rfl (Nat.le_of_ble_eq_true rfl) zm189 (Nat.le_of_ble_eq_true rfl) rfl ?_
        refine z_e1 (pc1 := 1) (L1 := [some (.long ((x1 : Int32).toInt64)), none, some (.long 0), none, some (.long 5), none]) (S1 := [.long ((x1 : Int32).toInt64)]) zd189_0 rfl rfl rfl ?_
        refine z_e1 (pc1 := 2) (L1 := [some (.long ((x1 : Int32).toInt64)), none, some (.long 0), none, some (.long 5), none]) (S1 := [.long 0, .long ((x1 : Int32).toInt64)]) zd189_1 rfl rfl rfl ?_
        refine z_e1 (pc1 := 3) (L1 := [some (.long ((x1 : Int32).toInt64)), none, some (.long 0), none, some (.long 5), none]) (S1 := [.int (lg_cmp ((x1 : Int32).toInt64) 0)]) zd189_2 rfl rfl rfl ?_
        refine z_ez (t := 17) (t2 := 6) zd189_3 rfl (z_b_ltl0 (k := 0) (by decide) (show ¬ x1.toInt < 0 from by omega)) ?_
        refine z_e1 (pc1 := 7) (L1 := [some (.long ((x1 : Int32).toInt64)), none, some (.long 0), none, some (.long 5), none]) (S1 := [.long ((x1 : Int32).toInt64)]) zd189_6 rfl rfl rfl ?_
        refine z_e1 (pc1 := 9) (L1 := [some (.long ((x1 : Int32).toInt64)), none, some (.long 0), none, some (.long 5), none]) (S1 := [.long 5, .long ((x1 : Int32).toInt64)]) zd189_7 rfl rfl rfl ?_
        refine z_e1 (pc1 := 10) (L1 := [some (.long ((x1 : Int32).toInt64)), none, some (.long 0), none, some (.long 5), none]) (S1 := [.int (lg_cmp ((x1 : Int32).toInt64) 5)]) zd189_9 rfl rfl rfl ?_
        refine z_ez (t := 17) (t2 := 13) zd189_10 rfl (z_b_gtl0 (k := 5) (by decide) (show ¬ 5 < x1.toInt from by omega)) ?_
        refine z_e1 (pc1 := 14) (L1 := [some (.long ((x1 : Int32).toInt64)), none, some (.long 0), none, some (.long 5), none]) (S1 := [.int 1]) zd189_13 rfl rfl rfl ?_
        refine z_e1 (pc1 := 18) (L1 := [some (.long ((x1 : Int32).toInt64)), none, some (.long 0), none, some (.long 5), none]) (S1 := [.int 1]) zd189_14 rfl rfl rfl ?_
        refine z_erz zd189_18 zr189 (by decide) ?_
        show z_ev _ 225 9 [some (.int x1)] [.int 1] _ _
        refine z_erz zd225_9 zr225 (by decide) ?_
        show z_ev _ 284 4 [some (.ref 19), some (.int x1), some (.int x2)] [.int 1] _ _
        refine z_ez (t := 20) (t2 := 7) zd284_4 rfl rfl ?_
        refine z_e1 (pc1 := 8) (L1 := [some (.ref 19), some (.int x1), some (.int x2)]) (S1 := [.int x2]) zd284_7 rfl rfl rfl ?_
        refine z_e1 (pc1 := 9) (L1 := [some (.ref 19), some (.int x1), some (.int x2)]) (S1 := [.int (-1), .int x2]) zd284_8 rfl rfl rfl ?_
        refine z_ej (t := 22) (t2 := 22) zd284_9 rfl (z_b_eqx1 (k := (-1)) (by decide) (show x2.toInt = (-1) from by omega)) ?_
        refine z_e1 (pc1 := 23) (L1 := [some (.ref 19), some (.int x1), some (.int x2)]) (S1 := [.ref 19]) zd284_22 rfl rfl rfl ?_
        refine z_egf (fs := [.ref 20, .int 0, .ref 21, .ref 22, .ref 23, .ref 24, .ref 25, .ref 26, .ref 27, .ref 28, .ref 29, .ref 30, .ref 31, .int 0, .ref 32, .ref 33, .ref 34, .ref 35, .ref 36, .ref 37, .ref 38, .int 0, .int 0, .int 0, .int 0, .int 0, .int 0, .int 0, .int 0, .int 0, .int 0, .ref 39, .ref 40, .ref 41, .int 0, .int 0, .ref 42, .ref 43, .ref 44, .ref 45, .ref 46, .int 0, .ref 47, .int 0, .int 0, .int 0, .ref 48, .int 0, .int 0, .ref 49, .ref 50, .ref 51, .ref 52]) (v := .ref 49) zd284_23 zf284_97 (z_gn (by decide) (z_gn (by decide) b19)) (by decide) (by decide) rfl ?_
        refine z_e1 (pc1 := 27) (L1 := [some (.ref 19), some (.int x1), some (.int x2)]) (S1 := [.int x1, .ref 49]) zd284_26 rfl rfl rfl ?_
        refine z_e1 (pc1 := 28) (L1 := [some (.ref 19), some (.int x1), some (.int x2)]) (S1 := [.int x2, .int x1, .ref 49]) zd284_27 rfl rfl rfl ?_
        refine z_eias zd284_28 (z_gn (by decide) (z_gn (by decide) b49)) (z_inr (show 0 ≤ x1.toInt by omega) (show x1.toInt < (6 : Nat) by omega)) (by decide) ?_
        refine z_e1 (pc1 := 30) (L1 := [some (.ref 19), some (.int x1), some (.int x2)]) (S1 := [.ref 19]) zd284_29 rfl rfl rfl ?_
        refine z_egf (fs := [.ref 20, .int 0, .ref 21, .ref 22, .ref 23, .ref 24, .ref 25, .ref 26, .ref 27, .ref 28, .ref 29, .ref 30, .ref 31, .int 0, .ref 32, .ref 33, .ref 34, .ref 35, .ref 36, .ref 37, .ref 38, .int 0, .int 0, .int 0, .int 0, .int 0, .int 0, .int 0, .int 0, .int 0, .int 0, .ref 39, .ref 40, .ref 41, .int 0, .int 0, .ref 42, .ref 43, .ref 44, .ref 45, .ref 46, .int 0, .ref 47, .int 0, .int 0, .int 0, .ref 48, .int 0, .int 0, .ref 49, .ref 50, .ref 51, .ref 52]) (v := .ref 50) zd284_30 zf284_100 (z_gn (by decide) (z_gn (by decide) (z_gn (by decide) b19))) (by decide) (by decide) rfl ?_
        refine z_e1 (pc1 := 34) (L1 := [some (.ref 19), some (.int x1), some (.int x2)]) (S1 := [.int x1, .ref 50]) zd284_33 rfl rfl rfl ?_
        refine z_e1 (pc1 := 35) (L1 := [some (.ref 19), some (.int x1), some (.int x2)]) (S1 := [.int 0, .int x1, .ref 50]) zd284_34 rfl rfl rfl ?_
        refine z_eias zd284_35 (z_gn (by decide) (z_gn (by decide) (z_gn (by decide) b50))) (z_inr (show 0 ≤ x1.toInt by omega) (show x1.toInt < (6 : Nat) by omega)) (by decide) ?_
        refine z_e1 (pc1 := 37) (L1 := [some (.ref 19), some (.int x1), some (.int x2)]) (S1 := [.int 1]) zd284_36 rfl rfl rfl ?_
        refine z_eri zd284_37 zr284 ?_
        show z_ev _ 0 1501 [some (.ref 0), some (.ref 4), some (.ref 19), some (.int 0)] [.int 1, .int 1] _ _
        refine z_ej (t := 1775) (t2 := 1775) zd0_1501 rfl rfl ?_
        refine z_e1 (pc1 := 1778) (L1 := [some (.ref 0), some (.ref 4), some (.ref 19), some (.int 6)]) (S1 := []) zd0_1775 rfl rfl rfl ?_
        refine z_e1 (pc1 := 18) (L1 := [some (.ref 0), some (.ref 4), some (.ref 19), some (.int 6)]) (S1 := []) zd0_1778 rfl rfl rfl ?_
        refine z_e1 (pc1 := 19) (L1 := [some (.ref 0), some (.ref 4), some (.ref 19), some (.int 6)]) (S1 := [.int 6]) zd0_18 rfl rfl rfl ?_
        refine z_e1 (pc1 := 20) (L1 := [some (.ref 0), some (.ref 4), some (.ref 19), some (.int 6)]) (S1 := [.ref 0, .int 6]) zd0_19 rfl rfl rfl ?_
        refine z_ealn (y := 6) zd0_20 (z_gn (by decide) (z_gn (by decide) (z_gn (by decide) (z_gn (by decide) h0)))) rfl ?_
        refine z_e1 (pc1 := 23) (L1 := [some (.ref 0), some (.ref 4), some (.ref 19), some (.int 6)]) (S1 := [.int 6, .int 6, .int 6]) zd0_21 rfl rfl rfl ?_
        refine z_e1 (pc1 := 24) (L1 := [some (.ref 0), some (.ref 4), some (.ref 19), some (.int 6)]) (S1 := [.int 0, .int 6]) zd0_23 rfl rfl rfl ?_
        refine z_ej (t := 1781) (t2 := 1781) zd0_24 rfl rfl ?_
        refine z_e1 (pc1 := 1782) (L1 := [some (.ref 0), some (.ref 4), some (.ref 19), some (.int 6)]) (S1 := [.int 1]) zd0_1781 rfl rfl rfl ?_
        refine z_erz zd0_1782 zr0 (by decide) ?_
        exact z_K1i (z_nl (z_nl (z_nl (z_nl hN)))) (z_szs (z_gn (by decide) (z_gn (by decide) (z_gn (by decide) b50))) rfl (z_szs (z_gn (by decide) (z_gn (by decide) b49)) rfl (z_szs (z_gn (by decide) b14) rfl (z_szs b17 rfl hS)))) (by decide) (by decide)
      · refine z_ej (t := 24) (t2 := 14) zd175_11 rfl (z_b_eqx0 (k := (-1)) (by decide) e3) ?_
        refine z_e1 (pc1 := 15) (L1 := [some (.ref 4), some (.int x1), some (.int x2)]) (S1 := [.ref 4]) zd175_14 rfl rfl rfl ?_
        refine z_e1 (pc1 := 16) (L1 := [some (.ref 4), some (.int x1), some (.int x2)]) (S1 := [.int x2, .ref 4]) zd175_15 rfl rfl rfl ?_
        refine z_ecV (vs := [.ref 4, .int x2]) (r := []) (L2 := [some (.ref 4), some (.int x2)]) zd175_16 zcV175_221 (Or.inl rfl) rfl b4 (by decide) rfl rfl rfl (Nat.le_of_ble_eq_true rfl) zm84 (Nat.le_of_ble_eq_true rfl) rfl ?_
        refine z_e1 (pc1 := 1) (L1 := [some (.ref 4), some (.int x2)]) (S1 := [.int x2]) zd84_0 rfl rfl rfl ?_
        by_cases e4 : x2.toInt < 0
        · refine z_ez (t := 12) (t2 := 12) zd84_1 rfl (z_b_ltx1 (k := 0) (by decide) e4) ?_
          refine z_e1 (pc1 := 13) (L1 := [some (.ref 4), some (.int x2)]) (S1 := [.null]) zd84_12 rfl rfl rfl ?_
          refine z_e1 (pc1 := 22) (L1 := [some (.ref 4), some (.int x2)]) (S1 := [.null]) zd84_13 rfl rfl rfl ?_
          refine z_ern zd84_22 zr84 ?_
          show z_ev _ 175 19 [some (.ref 4), some (.int x1), some (.int x2)] [.null] _ _
          refine z_e1 (pc1 := 22) (L1 := [some (.ref 4), some (.int x1), some (.int x2)]) (S1 := []) zd175_19 rfl rfl rfl ?_
          refine z_e1 (pc1 := 23) (L1 := [some (.ref 4), some (.int x1), some (.int x2)]) (S1 := [.int (-1)]) zd175_22 rfl rfl rfl ?_
          refine z_eri zd175_23 zr175 ?_
          show z_ev _ 0 1487 [some (.ref 0), some (.ref 4), some (.ref 19), some (.int 0)] [.int (-1)] _ _
          refine z_e1 (pc1 := 1488) (L1 := [some (.ref 0), some (.ref 4), some (.ref 19), some (.int 0)]) (S1 := [.ref 19, .int (-1)]) zd0_1487 rfl rfl rfl ?_
          refine z_e1 (pc1 := 1489) (L1 := [some (.ref 0), some (.ref 4), some (.ref 19), some (.int 0)]) (S1 := [.ref 0, .ref 19, .int (-1)]) zd0_1488 rfl rfl rfl ?_
          refine z_e1 (pc1 := 1490) (L1 := [some (.ref 0), some (.ref 4), some (.ref 19), some (.int 0)]) (S1 := [.int 0, .ref 0, .ref 19, .int (-1)]) zd0_1489 rfl rfl rfl ?_
          refine z_e1 (pc1 := 1491) (L1 := [some (.ref 0), some (.ref 4), some (.ref 19), some (.int 0)]) (S1 := [.int 1, .int 0, .ref 0, .ref 19, .int (-1)]) zd0_1490 rfl rfl rfl ?_
          refine z_e1 (pc1 := 1492) (L1 := [some (.ref 0), some (.ref 4), some (.ref 19), some (.int 0)]) (S1 := [.int 1, .ref 0, .ref 19, .int (-1)]) zd0_1491 rfl rfl rfl ?_
          refine z_eial (y := x1) zd0_1492 h0 (by decide) g1 ?_
          refine z_e1 (pc1 := 1494) (L1 := [some (.ref 0), some (.ref 4), some (.ref 19), some (.int 0)]) (S1 := [.ref 0, .int x1, .ref 19, .int (-1)]) zd0_1493 rfl rfl rfl ?_
          refine z_e1 (pc1 := 1495) (L1 := [some (.ref 0), some (.ref 4), some (.ref 19), some (.int 0)]) (S1 := [.int 0, .ref 0, .int x1, .ref 19, .int (-1)]) zd0_1494 rfl rfl rfl ?_
          refine z_e1 (pc1 := 1496) (L1 := [some (.ref 0), some (.ref 4), some (.ref 19), some (.int 0)]) (S1 := [.int 2, .int 0, .ref 0, .int x1, .ref 19, .int (-1)]) zd0_1495 rfl rfl rfl ?_
          refine z_e1 (pc1 := 1497) (L1 := [some (.ref 0), some (.ref 4), some (.ref 19), some (.int 0)]) (S1 := [.int 2, .ref 0, .int x1, .ref 19, .int (-1)]) zd0_1496 rfl rfl rfl ?_
          refine z_eial (y := x2) zd0_1497 h0 (by decide) g2 ?_
          refine z_ecV (vs := [.ref 19, .int x1, .int x2]) (r := [.int (-1)]) (L2 := [some (.ref 19), some (.int x1), some (.int x2)]) zd0_1498 zcV0_146 (Or.inl rfl) rfl b19 (by decide) rfl rfl rfl (Nat.le_of_ble_eq_true rfl) zm284 (Nat.le_of_ble_eq_true rfl) rfl ?_
          refine z_e1 (pc1 := 1) (L1 := [some (.ref 19), some (.int x1), some (.int x2)]) (S1 := [.int x1]) zd284_0 rfl rfl rfl ?_
          refine z_ecS (vs := [.int x1]) (r := []) (L2 := [some (.int x1)]) zd284_1 zcS284_237 (Or.inl rfl) (Nat.le_of_ble_eq_true rfl) rfl rfl (Nat.le_of_ble_eq_true rfl) zm225 (Nat.le_of_ble_eq_true rfl) rfl ?_
          refine z_e1 (pc1 := 1) (L1 := [some (.int x1)]) (S1 := [.int x1]) zd225_0 rfl rfl rfl ?_
          refine z_e1 (pc1 := 2) (L1 := [some (.int x1)]) (S1 := [.long ((x1 : Int32).toInt64)]) zd225_1 rfl rfl rfl ?_
          refine z_e1 (pc1 := 3) (L1 := [some (.int x1)]) (S1 := [.long 0, .long ((x1 : Int32).toInt64)]) zd225_2 rfl rfl rfl ?_
          refine z_eld2 zd225_3 zl225_318 ?_
          refine z_ecS (vs := [.long ((x1 : Int32).toInt64), .long 0, .long 5]) (r := []) (L2 := [some (.long ((x1 : Int32).toInt64)), none, some (.long 0), none, some (.long 5), none]) zd225_6 zcS225_116 (Or.inl rfl) (Nat.le_of_ble_eq_true rfl) rfl rfl (Nat.le_of_ble_eq_true rfl) zm189 (Nat.le_of_ble_eq_true rfl) rfl ?_
          refine z_e1 (pc1 := 1) (L1 := [some (.long ((x1 : Int32).toInt64)), none, some (.long 0), none, some (.long 5), none]) (S1 := [.long ((x1 : Int32).toInt64)]) zd189_0 rfl rfl rfl ?_
          refine z_e1 (pc1 := 2) (L1 := [some (.long ((x1 : Int32).toInt64)), none, some (.long 0), none, some (.long 5), none]) (S1 := [.long 0, .long ((x1 : Int32).toInt64)]) zd189_1 rfl rfl rfl ?_
          refine z_e1 (pc1 := 3) (L1 := [some (.long ((x1 : Int32).toInt64)), none, some (.long 0), none, some (.long 5), none]) (S1 := [.int (lg_cmp ((x1 : Int32).toInt64) 0)]) zd189_2 rfl rfl rfl ?_
          refine z_ez (t := 17) (t2 := 6) zd189_3 rfl (z_b_ltl0 (k := 0) (by decide) (show ¬ x1.toInt < 0 from by omega)) ?_
          refine z_e1 (pc1 := 7) (L1 := [some (.long ((x1 : Int32).toInt64)), none, some (.long 0), none, some (.long 5), none]) (S1 := [.long ((x1 : Int32).toInt64)]) zd189_6 rfl rfl rfl ?_
          refine z_e1 (pc1 := 9) (L1 := [some (.long ((x1 : Int32).toInt64)), none, some (.long 0), none, some (.long 5), none]) (S1 := [.long 5, .long ((x1 : Int32).toInt64)]) zd189_7 rfl rfl rfl ?_
          refine z_e1 (pc1 := 10) (L1 := [some (.long ((x1 : Int32).toInt64)), none, some (.long 0), none, some (.long 5), none]) (S1 := [.int (lg_cmp ((x1 : Int32).toInt64) 5)]) zd189_9 rfl rfl rfl ?_
          refine z_ez (t := 17) (t2 := 13) zd189_10 rfl (z_b_gtl0 (k := 5) (by decide) (show ¬ 5 < x1.toInt from by omega)) ?_
          refine z_e1 (pc1 := 14) (L1 := [some (.long ((x1 : Int32).toInt64)), none, some (.long 0), none, some (.long 5), none]) (S1 := [.int 1]) zd189_13 rfl rfl rfl ?_
          refine z_e1 (pc1 := 18) (L1 := [some (.long ((x1 : Int32).toInt64)), none, some (.long 0), none, some (.long 5), none]) (S1 := [.int 1]) zd189_14 rfl rfl rfl ?_
          refine z_erz zd189_18 zr189 (by decide) ?_
          show z_ev _ 225 9 [some (.int x1)] [.int 1] _ _
          refine z_erz zd225_9 zr225 (by decide) ?_
          show z_ev _ 284 4 [some (.ref 19), some (.int x1), some (.int x2)] [.int 1] _ _
          refine z_ez (t := 20) (t2 := 7) zd284_4 rfl rfl ?_
          refine z_e1 (pc1 := 8) (L1 := [some (.ref 19), some (.int x1), some (.int x2)]) (S1 := [.int x2]) zd284_7 rfl rfl rfl ?_
          refine z_e1 (pc1 := 9) (L1 := [some (.ref 19), some (.int x1), some (.int x2)]) (S1 := [.int (-1), .int x2]) zd284_8 rfl rfl rfl ?_
          refine z_ej (t := 22) (t2 := 12) zd284_9 rfl (z_b_eqx0 (k := (-1)) (by decide) (show ¬ x2.toInt = (-1) from by omega)) ?_
          refine z_e1 (pc1 := 13) (L1 := [some (.ref 19), some (.int x1), some (.int x2)]) (S1 := [.ref 19]) zd284_12 rfl rfl rfl ?_
          refine z_e1 (pc1 := 14) (L1 := [some (.ref 19), some (.int x1), some (.int x2)]) (S1 := [.int x2, .ref 19]) zd284_13 rfl rfl rfl ?_
          refine z_ecV (vs := [.ref 19, .int x2]) (r := []) (L2 := [some (.ref 19), some (.int x2)]) zd284_14 zcV284_272 (Or.inl rfl) rfl b19 (by decide) rfl rfl rfl (Nat.le_of_ble_eq_true rfl) zm237 (Nat.le_of_ble_eq_true rfl) rfl ?_
          refine z_e1 (pc1 := 1) (L1 := [some (.ref 19), some (.int x2)]) (S1 := [.int x2]) zd237_0 rfl rfl rfl ?_
          refine z_ez (t := 16) (t2 := 16) zd237_1 rfl (z_b_ltx1 (k := 0) (by decide) (show x2.toInt < 0 from by omega)) ?_
          refine z_e1 (pc1 := 17) (L1 := [some (.ref 19), some (.int x2)]) (S1 := [.int 0]) zd237_16 rfl rfl rfl ?_
          refine z_erz zd237_17 zr237 (by decide) ?_
          show z_ev _ 284 17 [some (.ref 19), some (.int x1), some (.int x2)] [.int 0] _ _
          refine z_ez (t := 22) (t2 := 20) zd284_17 rfl rfl ?_
          refine z_e1 (pc1 := 21) (L1 := [some (.ref 19), some (.int x1), some (.int x2)]) (S1 := [.int (-1)]) zd284_20 rfl rfl rfl ?_
          refine z_eri zd284_21 zr284 ?_
          show z_ev _ 0 1501 [some (.ref 0), some (.ref 4), some (.ref 19), some (.int 0)] [.int (-1), .int (-1)] _ _
          refine z_ej (t := 1775) (t2 := 1775) zd0_1501 rfl rfl ?_
          refine z_e1 (pc1 := 1778) (L1 := [some (.ref 0), some (.ref 4), some (.ref 19), some (.int 6)]) (S1 := []) zd0_1775 rfl rfl rfl ?_
          refine z_e1 (pc1 := 18) (L1 := [some (.ref 0), some (.ref 4), some (.ref 19), some (.int 6)]) (S1 := []) zd0_1778 rfl rfl rfl ?_
          refine z_e1 (pc1 := 19) (L1 := [some (.ref 0), some (.ref 4), some (.ref 19), some (.int 6)]) (S1 := [.int 6]) zd0_18 rfl rfl rfl ?_
          refine z_e1 (pc1 := 20) (L1 := [some (.ref 0), some (.ref 4), some (.ref 19), some (.int 6)]) (S1 := [.ref 0, .int 6]) zd0_19 rfl rfl rfl ?_
          refine z_ealn (y := 6) zd0_20 h0 rfl ?_
          refine z_e1 (pc1 := 23) (L1 := [some (.ref 0), some (.ref 4), some (.ref 19), some (.int 6)]) (S1 := [.int 6, .int 6, .int 6]) zd0_21 rfl rfl rfl ?_
          refine z_e1 (pc1 := 24) (L1 := [some (.ref 0), some (.ref 4), some (.ref 19), some (.int 6)]) (S1 := [.int 0, .int 6]) zd0_23 rfl rfl rfl ?_
          refine z_ej (t := 1781) (t2 := 1781) zd0_24 rfl rfl ?_
          refine z_e1 (pc1 := 1782) (L1 := [some (.ref 0), some (.ref 4), some (.ref 19), some (.int 6)]) (S1 := [.int 1]) zd0_1781 rfl rfl rfl ?_
          refine z_erz zd0_1782 zr0 (by decide) ?_
          exact z_K1i hN hS (by decide) (by decide)
        · refine z_ez (t := 12) (t2 := 4) zd84_1 rfl (z_b_ltx0 (k := 0) (by decide) e4) ?_
          refine z_e1 (pc1 := 5) (L1 := [some (.ref 4), some (.int x2)]) (S1 := [.int x2]) zd84_4 rfl rfl rfl ?_
          refine z_e1 (pc1 := 6) (L1 := [some (.ref 4), some (.int x2)]) (S1 := [.ref 4, .int x2]) zd84_5 rfl rfl rfl ?_
          refine z_egf (fs := [.ref 5, .ref 10, .ref 11, .int 0, .ref 12, .int 0, .ref 13, .ref 14, .ref 15, .ref 16, .ref 17, .ref 18, .null]) (v := .int 0) zd84_6 zf84_188 b4 (by decide) (by decide) rfl ?_
          refine z_ej (t := 16) (t2 := 12) zd84_9 rfl (z_b_ltx0 (k := 0) (by decide) (show ¬ x2.toInt < 0 from by omega)) ?_
          refine z_e1 (pc1 := 13) (L1 := [some (.ref 4), some (.int x2)]) (S1 := [.null]) zd84_12 rfl rfl rfl ?_
          refine z_e1 (pc1 := 22) (L1 := [some (.ref 4), some (.int x2)]) (S1 := [.null]) zd84_13 rfl rfl rfl ?_
          refine z_ern zd84_22 zr84 ?_
          show z_ev _ 175 19 [some (.ref 4), some (.int x1), some (.int x2)] [.null] _ _
          refine z_e1 (pc1 := 22) (L1 := [some (.ref 4), some (.int x1), some (.int x2)]) (S1 := []) zd175_19 rfl rfl rfl ?_
          refine z_e1 (pc1 := 23) (L1 := [some (.ref 4), some (.int x1), some (.int x2)]) (S1 := [.int (-1)]) zd175_22 rfl rfl rfl ?_
          refine z_eri zd175_23 zr175 ?_
          show z_ev _ 0 1487 [some (.ref 0), some (.ref 4), some (.ref 19), some (.int 0)] [.int (-1)] _ _
          refine z_e1 (pc1 := 1488) (L1 := [some (.ref 0), some (.ref 4), some (.ref 19), some (.int 0)]) (S1 := [.ref 19, .int (-1)]) zd0_1487 rfl rfl rfl ?_
          refine z_e1 (pc1 := 1489) (L1 := [some (.ref 0), some (.ref 4), some (.ref 19), some (.int 0)]) (S1 := [.ref 0, .ref 19, .int (-1)]) zd0_1488 rfl rfl rfl ?_
          refine z_e1 (pc1 := 1490) (L1 := [some (.ref 0), some (.ref 4), some (.ref 19), some (.int 0)]) (S1 := [.int 0, .ref 0, .ref 19, .int (-1)]) zd0_1489 rfl rfl rfl ?_
          refine z_e1 (pc1 := 1491) (L1 := [some (.ref 0), some (.ref 4), some (.ref 19), some (.int 0)]) (S1 := [.int 1, .int 0, .ref 0, .ref 19, .int (-1)]) zd0_1490 rfl rfl rfl ?_
          refine z_e1 (pc1 := 1492) (L1 := [some (.ref 0), some (.ref 4), some (.ref 19), some (.int 0)]) (S1 := [.int 1, .ref 0, .ref 19, .int (-1)]) zd0_1491 rfl rfl rfl ?_
          refine z_eial (y := x1) zd0_1492 h0 (by decide) g1 ?_
          refine z_e1 (pc1 := 1494) (L1 := [some (.ref 0), some (.ref 4), some (.ref 19), some (.int 0)]) (S1 := [.ref 0, .int x1, .ref 19, .int (-1)]) zd0_1493 rfl rfl rfl ?_
          refine z_e1 (pc1 := 1495) (L1 := [some (.ref 0), some (.ref 4), some (.ref 19), some (.int 0)]) (S1 := [.int 0, .ref 0, .int x1, .ref 19, .int (-1)]) zd0_1494 rfl rfl rfl ?_
          refine z_e1 (pc1 := 1496) (L1 := [some (.ref 0), some (.ref 4), some (.ref 19), some (.int 0)]) (S1 := [.int 2, .int 0, .ref 0, .int x1, .ref 19, .int (-1)]) zd0_1495 rfl rfl rfl ?_
          refine z_e1 (pc1 := 1497) (L1 := [some (.ref 0), some (.ref 4), some (.ref 19), some (.int 0)]) (S1 := [.int 2, .ref 0, .int x1, .ref 19, .int (-1)]) zd0_1496 rfl rfl rfl ?_
          refine z_eial (y := x2) zd0_1497 h0 (by decide) g2 ?_
          refine z_ecV (vs := [.ref 19, .int x1, .int x2]) (r := [.int (-1)]) (L2 := [some (.ref 19), some (.int x1), some (.int x2)]) zd0_1498 zcV0_146 (Or.inl rfl) rfl b19 (by decide) rfl rfl rfl (Nat.le_of_ble_eq_true rfl) zm284 (Nat.le_of_ble_eq_true rfl) rfl ?_
          refine z_e1 (pc1 := 1) (L1 := [some (.ref 19), some (.int x1), some (.int x2)]) (S1 := [.int x1]) zd284_0 rfl rfl rfl ?_
          refine z_ecS (vs := [.int x1]) (r := []) (L2 := [some (.int x1)]) zd284_1 zcS284_237 (Or.inl rfl) (Nat.le_of_ble_eq_true rfl) rfl rfl (Nat.le_of_ble_eq_true rfl) zm225 (Nat.le_of_ble_eq_true rfl) rfl ?_
          refine z_e1 (pc1 := 1) (L1 := [some (.int x1)]) (S1 := [.int x1]) zd225_0 rfl rfl rfl ?_
          refine z_e1 (pc1 := 2) (L1 := [some (.int x1)]) (S1 := [.long ((x1 : Int32).toInt64)]) zd225_1 rfl rfl rfl ?_
          refine z_e1 (pc1 := 3) (L1 := [some (.int x1)]) (S1 := [.long 0, .long ((x1 : Int32).toInt64)]) zd225_2 rfl rfl rfl ?_
          refine z_eld2 zd225_3 zl225_318 ?_
          refine z_ecS (vs := [.long ((x1 : Int32).toInt64), .long 0, .long 5]) (r := []) (L2 := [some (.long ((x1 : Int32).toInt64)), none, some (.long 0), none, some (.long 5), none]) zd225_6 zcS225_116 (Or.inl rfl) (Nat.le_of_ble_eq_true rfl) rfl rfl (Nat.le_of_ble_eq_true rfl) zm189 (Nat.le_of_ble_eq_true rfl) rfl ?_
          refine z_e1 (pc1 := 1) (L1 := [some (.long ((x1 : Int32).toInt64)), none, some (.long 0), none, some (.long 5), none]) (S1 := [.long ((x1 : Int32).toInt64)]) zd189_0 rfl rfl rfl ?_
          refine z_e1 (pc1 := 2) (L1 := [some (.long ((x1 : Int32).toInt64)), none, some (.long 0), none, some (.long 5), none]) (S1 := [.long 0, .long ((x1 : Int32).toInt64)]) zd189_1 rfl rfl rfl ?_
          refine z_e1 (pc1 := 3) (L1 := [some (.long ((x1 : Int32).toInt64)), none, some (.long 0), none, some (.long 5), none]) (S1 := [.int (lg_cmp ((x1 : Int32).toInt64) 0)]) zd189_2 rfl rfl rfl ?_
          refine z_ez (t := 17) (t2 := 6) zd189_3 rfl (z_b_ltl0 (k := 0) (by decide) (show ¬ x1.toInt < 0 from by omega)) ?_
          refine z_e1 (pc1 := 7) (L1 := [some (.long ((x1 : Int32).toInt64)), none, some (.long 0), none, some (.long 5), none]) (S1 := [.long ((x1 : Int32).toInt64)]) zd189_6 rfl rfl rfl ?_
          refine z_e1 (pc1 := 9) (L1 := [some (.long ((x1 : Int32).toInt64)), none, some (.long 0), none, some (.long 5), none]) (S1 := [.long 5, .long ((x1 : Int32).toInt64)]) zd189_7 rfl rfl rfl ?_
          refine z_e1 (pc1 := 10) (L1 := [some (.long ((x1 : Int32).toInt64)), none, some (.long 0), none, some (.long 5), none]) (S1 := [.int (lg_cmp ((x1 : Int32).toInt64) 5)]) zd189_9 rfl rfl rfl ?_
          refine z_ez (t := 17) (t2 := 13) zd189_10 rfl (z_b_gtl0 (k := 5) (by decide) (show ¬ 5 < x1.toInt from by omega)) ?_
          refine z_e1 (pc1 := 14) (L1 := [some (.long ((x1 : Int32).toInt64)), none, some (.long 0), none, some (.long 5), none]) (S1 := [.int 1]) zd189_13 rfl rfl rfl ?_
          refine z_e1 (pc1 := 18) (L1 := [some (.long ((x1 : Int32).toInt64)), none, some (.long 0), none, some (.long 5), none]) (S1 := [.int 1]) zd189_14 rfl rfl rfl ?_
          refine z_erz zd189_18 zr189 (by decide) ?_
          show z_ev _ 225 9 [some (.int x1)] [.int 1] _ _
          refine z_erz zd225_9 zr225 (by decide) ?_
          show z_ev _ 284 4 [some (.ref 19), some (.int x1), some (.int x2)] [.int 1] _ _
          refine z_ez (t := 20) (t2 := 7) zd284_4 rfl rfl ?_
          refine z_e1 (pc1 := 8) (L1 := [some (.ref 19), some (.int x1), some (.int x2)]) (S1 := [.int x2]) zd284_7 rfl rfl rfl ?_
          refine z_e1 (pc1 := 9) (L1 := [some (.ref 19), some (.int x1), some (.int x2)]) (S1 := [.int (-1), .int x2]) zd284_8 rfl rfl rfl ?_
          refine z_ej (t := 22) (t2 := 12) zd284_9 rfl (z_b_eqx0 (k := (-1)) (by decide) (show ¬ x2.toInt = (-1) from by omega)) ?_
          refine z_e1 (pc1 := 13) (L1 := [some (.ref 19), some (.int x1), some (.int x2)]) (S1 := [.ref 19]) zd284_12 rfl rfl rfl ?_
          refine z_e1 (pc1 := 14) (L1 := [some (.ref 19), some (.int x1), some (.int x2)]) (S1 := [.int x2, .ref 19]) zd284_13 rfl rfl rfl ?_
          refine z_ecV (vs := [.ref 19, .int x2]) (r := []) (L2 := [some (.ref 19), some (.int x2)]) zd284_14 zcV284_272 (Or.inl rfl) rfl b19 (by decide) rfl rfl rfl (Nat.le_of_ble_eq_true rfl) zm237 (Nat.le_of_ble_eq_true rfl) rfl ?_
          refine z_e1 (pc1 := 1) (L1 := [some (.ref 19), some (.int x2)]) (S1 := [.int x2]) zd237_0 rfl rfl rfl ?_
          refine z_ez (t := 16) (t2 := 4) zd237_1 rfl (z_b_ltx0 (k := 0) (by decide) (show ¬ x2.toInt < 0 from by omega)) ?_
          refine z_e1 (pc1 := 5) (L1 := [some (.ref 19), some (.int x2)]) (S1 := [.int x2]) zd237_4 rfl rfl rfl ?_
          refine z_e1 (pc1 := 6) (L1 := [some (.ref 19), some (.int x2)]) (S1 := [.ref 19, .int x2]) zd237_5 rfl rfl rfl ?_
          refine z_egf (fs := [.ref 20, .int 0, .ref 21, .ref 22, .ref 23, .ref 24, .ref 25, .ref 26, .ref 27, .ref 28, .ref 29, .ref 30, .ref 31, .int 0, .ref 32, .ref 33, .ref 34, .ref 35, .ref 36, .ref 37, .ref 38, .int 0, .int 0, .int 0, .int 0, .int 0, .int 0, .int 0, .int 0, .int 0, .int 0, .ref 39, .ref 40, .ref 41, .int 0, .int 0, .ref 42, .ref 43, .ref 44, .ref 45, .ref 46, .int 0, .ref 47, .int 0, .int 0, .int 0, .ref 48, .int 0, .int 0, .ref 49, .ref 50, .ref 51, .ref 52]) (v := .int 0) zd237_6 zf237_269 b19 (by decide) (by decide) rfl ?_
          refine z_ej (t := 16) (t2 := 16) zd237_9 rfl (z_b_gex0 (k := 0) (by decide) (show ¬ x2.toInt < 0 from by omega)) ?_
          refine z_e1 (pc1 := 17) (L1 := [some (.ref 19), some (.int x2)]) (S1 := [.int 0]) zd237_16 rfl rfl rfl ?_
          refine z_erz zd237_17 zr237 (by decide) ?_
          show z_ev _ 284 17 [some (.ref 19), some (.int x1), some (.int x2)] [.int 0] _ _
          refine z_ez (t := 22) (t2 := 20) zd284_17 rfl rfl ?_
          refine z_e1 (pc1 := 21) (L1 := [some (.ref 19), some (.int x1), some (.int x2)]) (S1 := [.int (-1)]) zd284_20 rfl rfl rfl ?_
          refine z_eri zd284_21 zr284 ?_
          show z_ev _ 0 1501 [some (.ref 0), some (.ref 4), some (.ref 19), some (.int 0)] [.int (-1), .int (-1)] _ _
          refine z_ej (t := 1775) (t2 := 1775) zd0_1501 rfl rfl ?_
          refine z_e1 (pc1 := 1778) (L1 := [some (.ref 0), some (.ref 4), some (.ref 19), some (.int 6)]) (S1 := []) zd0_1775 rfl rfl rfl ?_
          refine z_e1 (pc1 := 18) (L1 := [some (.ref 0), some (.ref 4), some (.ref 19), some (.int 6)]) (S1 := []) zd0_1778 rfl rfl rfl ?_
          refine z_e1 (pc1 := 19) (L1 := [some (.ref 0), some (.ref 4), some (.ref 19), some (.int 6)]) (S1 := [.int 6]) zd0_18 rfl rfl rfl ?_
          refine z_e1 (pc1 := 20) (L1 := [some (.ref 0), some (.ref 4), some (.ref 19), some (.int 6)]) (S1 := [.ref 0, .int 6]) zd0_19 rfl rfl rfl ?_
          refine z_ealn (y := 6) zd0_20 h0 rfl ?_
          refine z_e1 (pc1 := 23) (L1 := [some (.ref 0), some (.ref 4), some (.ref 19), some (.int 6)]) (S1 := [.int 6, .int 6, .int 6]) zd0_21 rfl rfl rfl ?_
          refine z_e1 (pc1 := 24) (L1 := [some (.ref 0), some (.ref 4), some (.ref 19), some (.int 6)]) (S1 := [.int 0, .int 6]) zd0_23 rfl rfl rfl ?_
          refine z_ej (t := 1781) (t2 := 1781) zd0_24 rfl rfl ?_
          refine z_e1 (pc1 := 1782) (L1 := [some (.ref 0), some (.ref 4), some (.ref 19), some (.int 6)]) (S1 := [.int 1]) zd0_1781 rfl rfl rfl ?_
          refine z_erz zd0_1782 zr0 (by decide) ?_
          exact z_K1i hN hS (by decide) (by decide)
    · refine z_ej (t := 14) (t2 := 14) zd58_7 rfl (z_b_gex0 (k := 6) (by decide) e2) ?_
      refine z_e1 (pc1 := 15) (L1 := [some (.int x1)]) (S1 := [.int 0]) zd58_14 rfl rfl rfl ?_
      refine z_erz zd58_15 zr58 (by decide) ?_
      show z_ev _ 175 4 [some (.ref 4), some (.int x1), some (.int x2)] [.int 0] _ _
      refine z_ez (t := 9) (t2 := 7) zd175_4 rfl rfl ?_
      refine z_e1 (pc1 := 8) (L1 := [some (.ref 4), some (.int x1), some (.int x2)]) (S1 := [.int (-1)]) zd175_7 rfl rfl rfl ?_
      refine z_eri zd175_8 zr175 ?_
      show z_ev _ 0 1487 [some (.ref 0), some (.ref 4), some (.ref 19), some (.int 0)] [.int (-1)] _ _
      refine z_e1 (pc1 := 1488) (L1 := [some (.ref 0), some (.ref 4), some (.ref 19), some (.int 0)]) (S1 := [.ref 19, .int (-1)]) zd0_1487 rfl rfl rfl ?_
      refine z_e1 (pc1 := 1489) (L1 := [some (.ref 0), some (.ref 4), some (.ref 19), some (.int 0)]) (S1 := [.ref 0, .ref 19, .int (-1)]) zd0_1488 rfl rfl rfl ?_
      refine z_e1 (pc1 := 1490) (L1 := [some (.ref 0), some (.ref 4), some (.ref 19), some (.int 0)]) (S1 := [.int 0, .ref 0, .ref 19, .int (-1)]) zd0_1489 rfl rfl rfl ?_
      refine z_e1 (pc1 := 1491) (L1 := [some (.ref 0), some (.ref 4), some (.ref 19), some (.int 0)]) (S1 := [.int 1, .int 0, .ref 0, .ref 19, .int (-1)]) zd0_1490 rfl rfl rfl ?_
      refine z_e1 (pc1 := 1492) (L1 := [some (.ref 0), some (.ref 4), some (.ref 19), some (.int 0)]) (S1 := [.int 1, .ref 0, .ref 19, .int (-1)]) zd0_1491 rfl rfl rfl ?_
      refine z_eial (y := x1) zd0_1492 h0 (by decide) g1 ?_
      refine z_e1 (pc1 := 1494) (L1 := [some (.ref 0), some (.ref 4), some (.ref 19), some (.int 0)]) (S1 := [.ref 0, .int x1, .ref 19, .int (-1)]) zd0_1493 rfl rfl rfl ?_
      refine z_e1 (pc1 := 1495) (L1 := [some (.ref 0), some (.ref 4), some (.ref 19), some (.int 0)]) (S1 := [.int 0, .ref 0, .int x1, .ref 19, .int (-1)]) zd0_1494 rfl rfl rfl ?_
      refine z_e1 (pc1 := 1496) (L1 := [some (.ref 0), some (.ref 4), some (.ref 19), some (.int 0)]) (S1 := [.int 2, .int 0, .ref 0, .int x1, .ref 19, .int (-1)]) zd0_1495 rfl rfl rfl ?_
      refine z_e1 (pc1 := 1497) (L1 := [some (.ref 0), some (.ref 4), some (.ref 19), some (.int 0)]) (S1 := [.int 2, .ref 0, .int x1, .ref 19, .int (-1)]) zd0_1496 rfl rfl rfl ?_
      refine z_eial (y := x2) zd0_1497 h0 (by decide) g2 ?_
      refine z_ecV (vs := [.ref 19, .int x1, .int x2]) (r := [.int (-1)]) (L2 := [some (.ref 19), some (.int x1), some (.int x2)]) zd0_1498 zcV0_146 (Or.inl rfl) rfl b19 (by decide) rfl rfl rfl (Nat.le_of_ble_eq_true rfl) zm284 (Nat.le_of_ble_eq_true rfl) rfl ?_
      refine z_e1 (pc1 := 1) (L1 := [some (.ref 19), some (.int x1), some (.int x2)]) (S1 := [.int x1]) zd284_0 rfl rfl rfl ?_
      refine z_ecS (vs := [.int x1]) (r := []) (L2 := [some (.int x1)]) zd284_1 zcS284_237 (Or.inl rfl) (Nat.le_of_ble_eq_true rfl) rfl rfl (Nat.le_of_ble_eq_true rfl) zm225 (Nat.le_of_ble_eq_true rfl) rfl ?_
      refine z_e1 (pc1 := 1) (L1 := [some (.int x1)]) (S1 := [.int x1]) zd225_0 rfl rfl rfl ?_
      refine z_e1 (pc1 := 2) (L1 := [some (.int x1)]) (S1 := [.long ((x1 : Int32).toInt64)]) zd225_1 rfl rfl rfl ?_
      refine z_e1 (pc1 := 3) (L1 := [some (.int x1)]) (S1 := [.long 0, .long ((x1 : Int32).toInt64)]) zd225_2 rfl rfl rfl ?_
      refine z_eld2 zd225_3 zl225_318 ?_
      refine z_ecS (vs := [.long ((x1 : Int32).toInt64), .long 0, .long 5]) (r := []) (L2 := [some (.long ((x1 : Int32).toInt64)), none, some (.long 0), none, some (.long 5), none]) zd225_6 zcS225_116 (Or.inl rfl) (Nat.le_of_ble_eq_true rfl) rfl rfl (Nat.le_of_ble_eq_true rfl) zm189 (Nat.le_of_ble_eq_true rfl) rfl ?_
      refine z_e1 (pc1 := 1) (L1 := [some (.long ((x1 : Int32).toInt64)), none, some (.long 0), none, some (.long 5), none]) (S1 := [.long ((x1 : Int32).toInt64)]) zd189_0 rfl rfl rfl ?_
      refine z_e1 (pc1 := 2) (L1 := [some (.long ((x1 : Int32).toInt64)), none, some (.long 0), none, some (.long 5), none]) (S1 := [.long 0, .long ((x1 : Int32).toInt64)]) zd189_1 rfl rfl rfl ?_
      refine z_e1 (pc1 := 3) (L1 := [some (.long ((x1 : Int32).toInt64)), none, some (.long 0), none, some (.long 5), none]) (S1 := [.int (lg_cmp ((x1 : Int32).toInt64) 0)]) zd189_2 rfl rfl rfl ?_
      refine z_ez (t := 17) (t2 := 6) zd189_3 rfl (z_b_ltl0 (k := 0) (by decide) (show ¬ x1.toInt < 0 from by omega)) ?_
      refine z_e1 (pc1 := 7) (L1 := [some (.long ((x1 : Int32).toInt64)), none, some (.long 0), none, some (.long 5), none]) (S1 := [.long ((x1 : Int32).toInt64)]) zd189_6 rfl rfl rfl ?_
      refine z_e1 (pc1 := 9) (L1 := [some (.long ((x1 : Int32).toInt64)), none, some (.long 0), none, some (.long 5), none]) (S1 := [.long 5, .long ((x1 : Int32).toInt64)]) zd189_7 rfl rfl rfl ?_
      refine z_e1 (pc1 := 10) (L1 := [some (.long ((x1 : Int32).toInt64)), none, some (.long 0), none, some (.long 5), none]) (S1 := [.int (lg_cmp ((x1 : Int32).toInt64) 5)]) zd189_9 rfl rfl rfl ?_
      refine z_ez (t := 17) (t2 := 17) zd189_10 rfl (z_b_gtl1 (k := 5) (by decide) (show 5 < x1.toInt from by omega)) ?_
      refine z_e1 (pc1 := 18) (L1 := [some (.long ((x1 : Int32).toInt64)), none, some (.long 0), none, some (.long 5), none]) (S1 := [.int 0]) zd189_17 rfl rfl rfl ?_
      refine z_erz zd189_18 zr189 (by decide) ?_
      show z_ev _ 225 9 [some (.int x1)] [.int 0] _ _
      refine z_erz zd225_9 zr225 (by decide) ?_
      show z_ev _ 284 4 [some (.ref 19), some (.int x1), some (.int x2)] [.int 0] _ _
      refine z_ez (t := 20) (t2 := 20) zd284_4 rfl rfl ?_
      refine z_e1 (pc1 := 21) (L1 := [some (.ref 19), some (.int x1), some (.int x2)]) (S1 := [.int (-1)]) zd284_20 rfl rfl rfl ?_
      refine z_eri zd284_21 zr284 ?_
      show z_ev _ 0 1501 [some (.ref 0), some (.ref 4), some (.ref 19), some (.int 0)] [.int (-1), .int (-1)] _ _
      refine z_ej (t := 1775) (t2 := 1775) zd0_1501 rfl rfl ?_
      refine z_e1 (pc1 := 1778) (L1 := [some (.ref 0), some (.ref 4), some (.ref 19), some (.int 6)]) (S1 := []) zd0_1775 rfl rfl rfl ?_
      refine z_e1 (pc1 := 18) (L1 := [some (.ref 0), some (.ref 4), some (.ref 19), some (.int 6)]) (S1 := []) zd0_1778 rfl rfl rfl ?_
      refine z_e1 (pc1 := 19) (L1 := [some (.ref 0), some (.ref 4), some (.ref 19), some (.int 6)]) (S1 := [.int 6]) zd0_18 rfl rfl rfl ?_
      refine z_e1 (pc1 := 20) (L1 := [some (.ref 0), some (.ref 4), some (.ref 19), some (.int 6)]) (S1 := [.ref 0, .int 6]) zd0_19 rfl rfl rfl ?_
      refine z_ealn (y := 6) zd0_20 h0 rfl ?_
      refine z_e1 (pc1 := 23) (L1 := [some (.ref 0), some (.ref 4), some (.ref 19), some (.int 6)]) (S1 := [.int 6, .int 6, .int 6]) zd0_21 rfl rfl rfl ?_
      refine z_e1 (pc1 := 24) (L1 := [some (.ref 0), some (.ref 4), some (.ref 19), some (.int 6)]) (S1 := [.int 0, .int 6]) zd0_23 rfl rfl rfl ?_
      refine z_ej (t := 1781) (t2 := 1781) zd0_24 rfl rfl ?_
      refine z_e1 (pc1 := 1782) (L1 := [some (.ref 0), some (.ref 4), some (.ref 19), some (.int 6)]) (S1 := [.int 1]) zd0_1781 rfl rfl rfl ?_
      refine z_erz zd0_1782 zr0 (by decide) ?_
      exact z_K1i hN hS (by decide) (by decide)
theorem z_C33 {M : zH} {xs : Nat → Int32} {x1 x2 x3 x4 x5 : Int32} (h0 : M[0]? = some (.inl (0, 6, .inl xs))) (hN : M.length = 53) (hS : z_sz M ≤ 50000) (hB : z_fr M 4 53) (g1 : xs 1 = x1) (g2 : xs 2 = x2) (g3 : xs 3 = x3) (g4 : xs 4 = x4) (g5 : xs 5 = x5) : z_ev 2047 0 1549 [some (.ref 0), some (.ref 4), some (.ref 19), some (.int 0)] [] M z_K1 := by
  have b4 := z_qO (hB 4 (by decide) (by decide))
  obtain ⟨f14, b14, c14⟩ := z_qI (hB 14 (by decide) (by decide))
  have b19 := z_qO (hB 19 (by decide) (by decide))
  obtain ⟨f49, b49, c49⟩ := z_qI (hB 49 (by decide) (by decide))
  refine z_e1 (pc1 := 1550) (L1 := [some (.ref 0), some (.ref 4), some (.ref 19), some (.int 0)]) (S1 := [.ref 4]) zd0_1549 rfl rfl rfl ?_
  refine z_e1 (pc1 := 1551) (L1 := [some (.ref 0), some (.ref 4), some (.ref 19), some (.int 0)]) (S1 := [.ref 0, .ref 4]) zd0_1550 rfl rfl rfl ?_
  refine z_e1 (pc1 := 1552) (L1 := [some (.ref 0), some (.ref 4), some (.ref 19), some (.int 0)]) (S1 := [.int 0, .ref 0, .ref 4]) zd0_1551 rfl rfl rfl ?_
  refine z_e1 (pc1 := 1553) (L1 := [some (.ref 0), some (.ref 4), some (.ref 19), some (.int 0)]) (S1 := [.int 1, .int 0, .ref 0, .ref 4]) zd0_1552 rfl rfl rfl ?_
  refine z_e1 (pc1 := 1554) (L1 := [some (.ref 0), some (.ref 4), some (.ref 19), some (.int 0)]) (S1 := [.int 1, .ref 0, .ref 4]) zd0_1553 rfl rfl rfl ?_
  refine z_eial (y := x1) zd0_1554 h0 (by decide) g1 ?_
  refine z_e1 (pc1 := 1556) (L1 := [some (.ref 0), some (.ref 4), some (.ref 19), some (.int 0)]) (S1 := [.ref 0, .int x1, .ref 4]) zd0_1555 rfl rfl rfl ?_
  refine z_e1 (pc1 := 1557) (L1 := [some (.ref 0), some (.ref 4), some (.ref 19), some (.int 0)]) (S1 := [.int 0, .ref 0, .int x1, .ref 4]) zd0_1556 rfl rfl rfl ?_
  refine z_e1 (pc1 := 1558) (L1 := [some (.ref 0), some (.ref 4), some (.ref 19), some (.int 0)]) (S1 := [.int 2, .int 0, .ref 0, .int x1, .ref 4]) zd0_1557 rfl rfl rfl ?_
  refine z_e1 (pc1 := 1559) (L1 := [some (.ref 0), some (.ref 4), some (.ref 19), some (.int 0)]) (S1 := [.int 2, .ref 0, .int x1, .ref 4]) zd0_1558 rfl rfl rfl ?_
  refine z_eial (y := x2) zd0_1559 h0 (by decide) g2 ?_
  refine z_e1 (pc1 := 1561) (L1 := [some (.ref 0), some (.ref 4), some (.ref 19), some (.int 0)]) (S1 := [.ref 0, .int x2, .int x1, .ref 4]) zd0_1560 rfl rfl rfl ?_
  refine z_e1 (pc1 := 1562) (L1 := [some (.ref 0), some (.ref 4), some (.ref 19), some (.int 0)]) (S1 := [.int 0, .ref 0, .int x2, .int x1, .ref 4]) zd0_1561 rfl rfl rfl ?_
  refine z_e1 (pc1 := 1563) (L1 := [some (.ref 0), some (.ref 4), some (.ref 19), some (.int 0)]) (S1 := [.int 3, .int 0, .ref 0, .int x2, .int x1, .ref 4]) zd0_1562 rfl rfl rfl ?_
  refine z_e1 (pc1 := 1564) (L1 := [some (.ref 0), some (.ref 4), some (.ref 19), some (.int 0)]) (S1 := [.int 3, .ref 0, .int x2, .int x1, .ref 4]) zd0_1563 rfl rfl rfl ?_
  refine z_eial (y := x3) zd0_1564 h0 (by decide) g3 ?_
  refine z_e1 (pc1 := 1566) (L1 := [some (.ref 0), some (.ref 4), some (.ref 19), some (.int 0)]) (S1 := [.long ((x3 : Int32).toInt64), .int x2, .int x1, .ref 4]) zd0_1565 rfl rfl rfl ?_
  refine z_e1 (pc1 := 1568) (L1 := [some (.ref 0), some (.ref 4), some (.ref 19), some (.int 0)]) (S1 := [.int 32, .long ((x3 : Int32).toInt64), .int x2, .int x1, .ref 4]) zd0_1566 rfl rfl rfl ?_
  refine z_e1 (pc1 := 1569) (L1 := [some (.ref 0), some (.ref 4), some (.ref 19), some (.int 0)]) (S1 := [.long (((x3 : Int32).toInt64) <<< ((32 : Int32).toInt64 &&& 63)), .int x2, .int x1, .ref 4]) zd0_1568 rfl rfl rfl ?_
  refine z_e1 (pc1 := 1570) (L1 := [some (.ref 0), some (.ref 4), some (.ref 19), some (.int 0)]) (S1 := [.ref 0, .long (((x3 : Int32).toInt64) <<< ((32 : Int32).toInt64 &&& 63)), .int x2, .int x1, .ref 4]) zd0_1569 rfl rfl rfl ?_
  refine z_e1 (pc1 := 1571) (L1 := [some (.ref 0), some (.ref 4), some (.ref 19), some (.int 0)]) (S1 := [.int 0, .ref 0, .long (((x3 : Int32).toInt64) <<< ((32 : Int32).toInt64 &&& 63)), .int x2, .int x1, .ref 4]) zd0_1570 rfl rfl rfl ?_
  refine z_e1 (pc1 := 1572) (L1 := [some (.ref 0), some (.ref 4), some (.ref 19), some (.int 0)]) (S1 := [.int 4, .int 0, .ref 0, .long (((x3 : Int32).toInt64) <<< ((32 : Int32).toInt64 &&& 63)), .int x2, .int x1, .ref 4]) zd0_1571 rfl rfl rfl ?_
  refine z_e1 (pc1 := 1573) (L1 := [some (.ref 0), some (.ref 4), some (.ref 19), some (.int 0)]) (S1 := [.int 4, .ref 0, .long (((x3 : Int32).toInt64) <<< ((32 : Int32).toInt64 &&& 63)), .int x2, .int x1, .ref 4]) zd0_1572 rfl rfl rfl ?_
  refine z_eial (y := x4) zd0_1573 h0 (by decide) g4 ?_
  refine z_e1 (pc1 := 1575) (L1 := [some (.ref 0), some (.ref 4), some (.ref 19), some (.int 0)]) (S1 := [.long ((x4 : Int32).toInt64), .long (((x3 : Int32).toInt64) <<< ((32 : Int32).toInt64 &&& 63)), .int x2, .int x1, .ref 4]) zd0_1574 rfl rfl rfl ?_
  refine z_eld2 zd0_1575 zl0_151 ?_
  refine z_e1 (pc1 := 1579) (L1 := [some (.ref 0), some (.ref 4), some (.ref 19), some (.int 0)]) (S1 := [.long (((x4 : Int32).toInt64) &&& 4294967295), .long (((x3 : Int32).toInt64) <<< ((32 : Int32).toInt64 &&& 63)), .int x2, .int x1, .ref 4]) zd0_1578 rfl rfl rfl ?_
  refine z_e1 (pc1 := 1580) (L1 := [some (.ref 0), some (.ref 4), some (.ref 19), some (.int 0)]) (S1 := [.long ((((x3 : Int32).toInt64) <<< ((32 : Int32).toInt64 &&& 63)) ||| (((x4 : Int32).toInt64) &&& 4294967295)), .int x2, .int x1, .ref 4]) zd0_1579 rfl rfl rfl ?_
  refine z_ecV (vs := [.ref 4, .int x1, .int x2, .long ((((x3 : Int32).toInt64) <<< ((32 : Int32).toInt64 &&& 63)) ||| (((x4 : Int32).toInt64) &&& 4294967295))]) (r := []) (L2 := [some (.ref 4), some (.int x1), some (.int x2), some (.long ((((x3 : Int32).toInt64) <<< ((32 : Int32).toInt64 &&& 63)) ||| (((x4 : Int32).toInt64) &&& 4294967295))), none, none]) zd0_1580 zcV0_153 (Or.inl rfl) rfl b4 (by decide) rfl rfl rfl (Nat.le_of_ble_eq_true rfl) zm177 (Nat.le_of_ble_eq_true rfl) rfl ?_
  refine z_e1 (pc1 := 1) (L1 := [some (.ref 4), some (.int x1), some (.int x2), some (.long ((((x3 : Int32).toInt64) <<< ((32 : Int32).toInt64 &&& 63)) ||| (((x4 : Int32).toInt64) &&& 4294967295))), none, none]) (S1 := [.ref 4]) zd177_0 rfl rfl rfl ?_
  refine z_e1 (pc1 := 2) (L1 := [some (.ref 4), some (.int x1), some (.int x2), some (.long ((((x3 : Int32).toInt64) <<< ((32 : Int32).toInt64 &&& 63)) ||| (((x4 : Int32).toInt64) &&& 4294967295))), none, none]) (S1 := [.int x1, .ref 4]) zd177_1 rfl rfl rfl ?_
  refine z_e1 (pc1 := 3) (L1 := [some (.ref 4), some (.int x1), some (.int x2), some (.long ((((x3 : Int32).toInt64) <<< ((32 : Int32).toInt64 &&& 63)) ||| (((x4 : Int32).toInt64) &&& 4294967295))), none, none]) (S1 := [.int x2, .int x1, .ref 4]) zd177_2 rfl rfl rfl ?_
  refine z_ecV (vs := [.ref 4, .int x1, .int x2]) (r := []) (L2 := [some (.ref 4), some (.int x1), some (.int x2)]) zd177_3 zcV177_313 (Or.inl rfl) rfl b4 (by decide) rfl rfl rfl (Nat.le_of_ble_eq_true rfl) zm178 (Nat.le_of_ble_eq_true rfl) rfl ?_
  refine z_e1 (pc1 := 1) (L1 := [some (.ref 4), some (.int x1), some (.int x2)]) (S1 := [.int x1]) zd178_0 rfl rfl rfl ?_
  refine z_ecS (vs := [.int x1]) (r := []) (L2 := [some (.int x1)]) zd178_1 zcS178_148 (Or.inl rfl) (Nat.le_of_ble_eq_true rfl) rfl rfl (Nat.le_of_ble_eq_true rfl) zm58 (Nat.le_of_ble_eq_true rfl) rfl ?_
  refine z_e1 (pc1 := 1) (L1 := [some (.int x1)]) (S1 := [.int x1]) zd58_0 rfl rfl rfl ?_
  by_cases e1 : x1.toInt < 0
  · refine z_ez (t := 14) (t2 := 14) zd58_1 rfl (z_b_ltx1 (k := 0) (by decide) e1) ?_
    refine z_e1 (pc1 := 15) (L1 := [some (.int x1)]) (S1 := [.int 0]) zd58_14 rfl rfl rfl ?_
    refine z_erz zd58_15 zr58 (by decide) ?_
    show z_ev _ 178 4 [some (.ref 4), some (.int x1), some (.int x2)] [.int 0] _ _
    refine z_ez (t := 9) (t2 := 7) zd178_4 rfl rfl ?_
    refine z_e1 (pc1 := 8) (L1 := [some (.ref 4), some (.int x1), some (.int x2)]) (S1 := [.int (-1)]) zd178_7 rfl rfl rfl ?_
    refine z_eri zd178_8 zr178 ?_
    show z_ev _ 177 6 [some (.ref 4), some (.int x1), some (.int x2), some (.long ((((x3 : Int32).toInt64) <<< ((32 : Int32).toInt64 &&& 63)) ||| (((x4 : Int32).toInt64) &&& 4294967295))), none, none] [.int (-1)] _ _
    refine z_e1 (pc1 := 8) (L1 := [some (.ref 4), some (.int x1), some (.int x2), some (.long ((((x3 : Int32).toInt64) <<< ((32 : Int32).toInt64 &&& 63)) ||| (((x4 : Int32).toInt64) &&& 4294967295))), none, some (.int (-1))]) (S1 := []) zd177_6 rfl rfl rfl ?_
    refine z_e1 (pc1 := 10) (L1 := [some (.ref 4), some (.int x1), some (.int x2), some (.long ((((x3 : Int32).toInt64) <<< ((32 : Int32).toInt64 &&& 63)) ||| (((x4 : Int32).toInt64) &&& 4294967295))), none, some (.int (-1))]) (S1 := [.int (-1)]) zd177_8 rfl rfl rfl ?_
    refine z_ez (t := 16) (t2 := 13) zd177_10 rfl rfl ?_
    refine z_e1 (pc1 := 15) (L1 := [some (.ref 4), some (.int x1), some (.int x2), some (.long ((((x3 : Int32).toInt64) <<< ((32 : Int32).toInt64 &&& 63)) ||| (((x4 : Int32).toInt64) &&& 4294967295))), none, some (.int (-1))]) (S1 := [.int (-1)]) zd177_13 rfl rfl rfl ?_
    refine z_eri zd177_15 zr177 ?_
    show z_ev _ 0 1583 [some (.ref 0), some (.ref 4), some (.ref 19), some (.int 0)] [.int (-1)] _ _
    refine z_e1 (pc1 := 1584) (L1 := [some (.ref 0), some (.ref 4), some (.ref 19), some (.int 0)]) (S1 := [.ref 19, .int (-1)]) zd0_1583 rfl rfl rfl ?_
    refine z_e1 (pc1 := 1585) (L1 := [some (.ref 0), some (.ref 4), some (.ref 19), some (.int 0)]) (S1 := [.ref 0, .ref 19, .int (-1)]) zd0_1584 rfl rfl rfl ?_
    refine z_e1 (pc1 := 1586) (L1 := [some (.ref 0), some (.ref 4), some (.ref 19), some (.int 0)]) (S1 := [.int 0, .ref 0, .ref 19, .int (-1)]) zd0_1585 rfl rfl rfl ?_
    refine z_e1 (pc1 := 1587) (L1 := [some (.ref 0), some (.ref 4), some (.ref 19), some (.int 0)]) (S1 := [.int 1, .int 0, .ref 0, .ref 19, .int (-1)]) zd0_1586 rfl rfl rfl ?_
    refine z_e1 (pc1 := 1588) (L1 := [some (.ref 0), some (.ref 4), some (.ref 19), some (.int 0)]) (S1 := [.int 1, .ref 0, .ref 19, .int (-1)]) zd0_1587 rfl rfl rfl ?_
    refine z_eial (y := x1) zd0_1588 h0 (by decide) g1 ?_
    refine z_e1 (pc1 := 1590) (L1 := [some (.ref 0), some (.ref 4), some (.ref 19), some (.int 0)]) (S1 := [.ref 0, .int x1, .ref 19, .int (-1)]) zd0_1589 rfl rfl rfl ?_
    refine z_e1 (pc1 := 1591) (L1 := [some (.ref 0), some (.ref 4), some (.ref 19), some (.int 0)]) (S1 := [.int 0, .ref 0, .int x1, .ref 19, .int (-1)]) zd0_1590 rfl rfl rfl ?_
    refine z_e1 (pc1 := 1592) (L1 := [some (.ref 0), some (.ref 4), some (.ref 19), some (.int 0)]) (S1 := [.int 2, .int 0, .ref 0, .int x1, .ref 19, .int (-1)]) zd0_1591 rfl rfl rfl ?_
    refine z_e1 (pc1 := 1593) (L1 := [some (.ref 0), some (.ref 4), some (.ref 19), some (.int 0)]) (S1 := [.int 2, .ref 0, .int x1, .ref 19, .int (-1)]) zd0_1592 rfl rfl rfl ?_
    refine z_eial (y := x2) zd0_1593 h0 (by decide) g2 ?_
    refine z_e1 (pc1 := 1595) (L1 := [some (.ref 0), some (.ref 4), some (.ref 19), some (.int 0)]) (S1 := [.ref 0, .int x2, .int x1, .ref 19, .int (-1)]) zd0_1594 rfl rfl rfl ?_
    refine z_e1 (pc1 := 1596) (L1 := [some (.ref 0), some (.ref 4), some (.ref 19), some (.int 0)]) (S1 := [.int 0, .ref 0, .int x2, .int x1, .ref 19, .int (-1)]) zd0_1595 rfl rfl rfl ?_
    refine z_e1 (pc1 := 1597) (L1 := [some (.ref 0), some (.ref 4), some (.ref 19), some (.int 0)]) (S1 := [.int 3, .int 0, .ref 0, .int x2, .int x1, .ref 19, .int (-1)]) zd0_1596 rfl rfl rfl ?_
    refine z_e1 (pc1 := 1598) (L1 := [some (.ref 0), some (.ref 4), some (.ref 19), some (.int 0)]) (S1 := [.int 3, .ref 0, .int x2, .int x1, .ref 19, .int (-1)]) zd0_1597 rfl rfl rfl ?_
    refine z_eial (y := x3) zd0_1598 h0 (by decide) g3 ?_
    refine z_e1 (pc1 := 1600) (L1 := [some (.ref 0), some (.ref 4), some (.ref 19), some (.int 0)]) (S1 := [.long ((x3 : Int32).toInt64), .int x2, .int x1, .ref 19, .int (-1)]) zd0_1599 rfl rfl rfl ?_
    refine z_e1 (pc1 := 1602) (L1 := [some (.ref 0), some (.ref 4), some (.ref 19), some (.int 0)]) (S1 := [.int 32, .long ((x3 : Int32).toInt64), .int x2, .int x1, .ref 19, .int (-1)]) zd0_1600 rfl rfl rfl ?_
    refine z_e1 (pc1 := 1603) (L1 := [some (.ref 0), some (.ref 4), some (.ref 19), some (.int 0)]) (S1 := [.long (((x3 : Int32).toInt64) <<< ((32 : Int32).toInt64 &&& 63)), .int x2, .int x1, .ref 19, .int (-1)]) zd0_1602 rfl rfl rfl ?_
    refine z_e1 (pc1 := 1604) (L1 := [some (.ref 0), some (.ref 4), some (.ref 19), some (.int 0)]) (S1 := [.ref 0, .long (((x3 : Int32).toInt64) <<< ((32 : Int32).toInt64 &&& 63)), .int x2, .int x1, .ref 19, .int (-1)]) zd0_1603 rfl rfl rfl ?_
    refine z_e1 (pc1 := 1605) (L1 := [some (.ref 0), some (.ref 4), some (.ref 19), some (.int 0)]) (S1 := [.int 0, .ref 0, .long (((x3 : Int32).toInt64) <<< ((32 : Int32).toInt64 &&& 63)), .int x2, .int x1, .ref 19, .int (-1)]) zd0_1604 rfl rfl rfl ?_
    refine z_e1 (pc1 := 1606) (L1 := [some (.ref 0), some (.ref 4), some (.ref 19), some (.int 0)]) (S1 := [.int 4, .int 0, .ref 0, .long (((x3 : Int32).toInt64) <<< ((32 : Int32).toInt64 &&& 63)), .int x2, .int x1, .ref 19, .int (-1)]) zd0_1605 rfl rfl rfl ?_
    refine z_e1 (pc1 := 1607) (L1 := [some (.ref 0), some (.ref 4), some (.ref 19), some (.int 0)]) (S1 := [.int 4, .ref 0, .long (((x3 : Int32).toInt64) <<< ((32 : Int32).toInt64 &&& 63)), .int x2, .int x1, .ref 19, .int (-1)]) zd0_1606 rfl rfl rfl ?_
    refine z_eial (y := x4) zd0_1607 h0 (by decide) g4 ?_
    refine z_e1 (pc1 := 1609) (L1 := [some (.ref 0), some (.ref 4), some (.ref 19), some (.int 0)]) (S1 := [.long ((x4 : Int32).toInt64), .long (((x3 : Int32).toInt64) <<< ((32 : Int32).toInt64 &&& 63)), .int x2, .int x1, .ref 19, .int (-1)]) zd0_1608 rfl rfl rfl ?_
    refine z_eld2 zd0_1609 zl0_151 ?_
    refine z_e1 (pc1 := 1613) (L1 := [some (.ref 0), some (.ref 4), some (.ref 19), some (.int 0)]) (S1 := [.long (((x4 : Int32).toInt64) &&& 4294967295), .long (((x3 : Int32).toInt64) <<< ((32 : Int32).toInt64 &&& 63)), .int x2, .int x1, .ref 19, .int (-1)]) zd0_1612 rfl rfl rfl ?_
    refine z_e1 (pc1 := 1614) (L1 := [some (.ref 0), some (.ref 4), some (.ref 19), some (.int 0)]) (S1 := [.long ((((x3 : Int32).toInt64) <<< ((32 : Int32).toInt64 &&& 63)) ||| (((x4 : Int32).toInt64) &&& 4294967295)), .int x2, .int x1, .ref 19, .int (-1)]) zd0_1613 rfl rfl rfl ?_
    refine z_ecV (vs := [.ref 19, .int x1, .int x2, .long ((((x3 : Int32).toInt64) <<< ((32 : Int32).toInt64 &&& 63)) ||| (((x4 : Int32).toInt64) &&& 4294967295))]) (r := [.int (-1)]) (L2 := [some (.ref 19), some (.int x1), some (.int x2), some (.long ((((x3 : Int32).toInt64) <<< ((32 : Int32).toInt64 &&& 63)) ||| (((x4 : Int32).toInt64) &&& 4294967295))), none, none]) zd0_1614 zcV0_157 (Or.inl rfl) rfl b19 (by decide) rfl rfl rfl (Nat.le_of_ble_eq_true rfl) zm286 (Nat.le_of_ble_eq_true rfl) rfl ?_
    refine z_e1 (pc1 := 1) (L1 := [some (.ref 19), some (.int x1), some (.int x2), some (.long ((((x3 : Int32).toInt64) <<< ((32 : Int32).toInt64 &&& 63)) ||| (((x4 : Int32).toInt64) &&& 4294967295))), none, none]) (S1 := [.ref 19]) zd286_0 rfl rfl rfl ?_
    refine z_e1 (pc1 := 2) (L1 := [some (.ref 19), some (.int x1), some (.int x2), some (.long ((((x3 : Int32).toInt64) <<< ((32 : Int32).toInt64 &&& 63)) ||| (((x4 : Int32).toInt64) &&& 4294967295))), none, none]) (S1 := [.int x1, .ref 19]) zd286_1 rfl rfl rfl ?_
    refine z_e1 (pc1 := 3) (L1 := [some (.ref 19), some (.int x1), some (.int x2), some (.long ((((x3 : Int32).toInt64) <<< ((32 : Int32).toInt64 &&& 63)) ||| (((x4 : Int32).toInt64) &&& 4294967295))), none, none]) (S1 := [.int x2, .int x1, .ref 19]) zd286_2 rfl rfl rfl ?_
    refine z_ecV (vs := [.ref 19, .int x1, .int x2]) (r := []) (L2 := [some (.ref 19), some (.int x1), some (.int x2)]) zd286_3 zcV286_405 (Or.inl rfl) rfl b19 (by decide) rfl rfl rfl (Nat.le_of_ble_eq_true rfl) zm287 (Nat.le_of_ble_eq_true rfl) rfl ?_
    refine z_e1 (pc1 := 1) (L1 := [some (.ref 19), some (.int x1), some (.int x2)]) (S1 := [.int x1]) zd287_0 rfl rfl rfl ?_
    refine z_ecS (vs := [.int x1]) (r := []) (L2 := [some (.int x1)]) zd287_1 zcS287_237 (Or.inl rfl) (Nat.le_of_ble_eq_true rfl) rfl rfl (Nat.le_of_ble_eq_true rfl) zm225 (Nat.le_of_ble_eq_true rfl) rfl ?_
    refine z_e1 (pc1 := 1) (L1 := [some (.int x1)]) (S1 := [.int x1]) zd225_0 rfl rfl rfl ?_
    refine z_e1 (pc1 := 2) (L1 := [some (.int x1)]) (S1 := [.long ((x1 : Int32).toInt64)]) zd225_1 rfl rfl rfl ?_
    refine z_e1 (pc1 := 3) (L1 := [some (.int x1)]) (S1 := [.long 0, .long ((x1 : Int32).toInt64)]) zd225_2 rfl rfl rfl ?_
    refine z_eld2 zd225_3 zl225_318 ?_
    refine z_ecS (vs := [.long ((x1 : Int32).toInt64), .long 0, .long 5]) (r := []) (L2 := [some (.long ((x1 : Int32).toInt64)), none, some (.long 0), none, some (.long 5), none]) zd225_6 zcS225_116 (Or.inl rfl) (Nat.le_of_ble_eq_true rfl) rfl rfl (Nat.le_of_ble_eq_true rfl) zm189 (Nat.le_of_ble_eq_true rfl) rfl ?_
    refine z_e1 (pc1 := 1) (L1 := [some (.long ((x1 : Int32).toInt64)), none, some (.long 0), none, some (.long 5), none]) (S1 := [.long ((x1 : Int32).toInt64)]) zd189_0 rfl rfl rfl ?_
    refine z_e1 (pc1 := 2) (L1 := [some (.long ((x1 : Int32).toInt64)), none, some (.long 0), none, some (.long 5), none]) (S1 := [.long 0, .long ((x1 : Int32).toInt64)]) zd189_1 rfl rfl rfl ?_
    refine z_e1 (pc1 := 3) (L1 := [some (.long ((x1 : Int32).toInt64)), none, some (.long 0), none, some (.long 5), none]) (S1 := [.int (lg_cmp ((x1 : Int32).toInt64) 0)]) zd189_2 rfl rfl rfl ?_
    refine z_ez (t := 17) (t2 := 17) zd189_3 rfl (z_b_ltl1 (k := 0) (by decide) (show x1.toInt < 0 from by omega)) ?_
    refine z_e1 (pc1 := 18) (L1 := [some (.long ((x1 : Int32).toInt64)), none, some (.long 0), none, some (.long 5), none]) (S1 := [.int 0]) zd189_17 rfl rfl rfl ?_
    refine z_erz zd189_18 zr189 (by decide) ?_
    show z_ev _ 225 9 [some (.int x1)] [.int 0] _ _
    refine z_erz zd225_9 zr225 (by decide) ?_
    show z_ev _ 287 4 [some (.ref 19), some (.int x1), some (.int x2)] [.int 0] _ _
    refine z_ez (t := 9) (t2 := 7) zd287_4 rfl rfl ?_
    refine z_e1 (pc1 := 8) (L1 := [some (.ref 19), some (.int x1), some (.int x2)]) (S1 := [.int (-1)]) zd287_7 rfl rfl rfl ?_
    refine z_eri zd287_8 zr287 ?_
    show z_ev _ 286 6 [some (.ref 19), some (.int x1), some (.int x2), some (.long ((((x3 : Int32).toInt64) <<< ((32 : Int32).toInt64 &&& 63)) ||| (((x4 : Int32).toInt64) &&& 4294967295))), none, none] [.int (-1)] _ _
    refine z_e1 (pc1 := 8) (L1 := [some (.ref 19), some (.int x1), some (.int x2), some (.long ((((x3 : Int32).toInt64) <<< ((32 : Int32).toInt64 &&& 63)) ||| (((x4 : Int32).toInt64) &&& 4294967295))), none, some (.int (-1))]) (S1 := []) zd286_6 rfl rfl rfl ?_
    refine z_e1 (pc1 := 10) (L1 := [some (.ref 19), some (.int x1), some (.int x2), some (.long ((((x3 : Int32).toInt64) <<< ((32 : Int32).toInt64 &&& 63)) ||| (((x4 : Int32).toInt64) &&& 4294967295))), none, some (.int (-1))]) (S1 := [.int (-1)]) zd286_8 rfl rfl rfl ?_
    refine z_ez (t := 37) (t2 := 37) zd286_10 rfl rfl ?_
    refine z_e1 (pc1 := 39) (L1 := [some (.ref 19), some (.int x1), some (.int x2), some (.long ((((x3 : Int32).toInt64) <<< ((32 : Int32).toInt64 &&& 63)) ||| (((x4 : Int32).toInt64) &&& 4294967295))), none, some (.int (-1))]) (S1 := [.int (-1)]) zd286_37 rfl rfl rfl ?_
    refine z_ez (t := 46) (t2 := 46) zd286_39 rfl rfl ?_
    refine z_e1 (pc1 := 48) (L1 := [some (.ref 19), some (.int x1), some (.int x2), some (.long ((((x3 : Int32).toInt64) <<< ((32 : Int32).toInt64 &&& 63)) ||| (((x4 : Int32).toInt64) &&& 4294967295))), none, some (.int (-1))]) (S1 := [.int (-1)]) zd286_46 rfl rfl rfl ?_
    refine z_eri zd286_48 zr286 ?_
    show z_ev _ 0 1617 [some (.ref 0), some (.ref 4), some (.ref 19), some (.int 0)] [.int (-1), .int (-1)] _ _
    refine z_ej (t := 1775) (t2 := 1775) zd0_1617 rfl rfl ?_
    refine z_e1 (pc1 := 1778) (L1 := [some (.ref 0), some (.ref 4), some (.ref 19), some (.int 6)]) (S1 := []) zd0_1775 rfl rfl rfl ?_
    refine z_e1 (pc1 := 18) (L1 := [some (.ref 0), some (.ref 4), some (.ref 19), some (.int 6)]) (S1 := []) zd0_1778 rfl rfl rfl ?_
    refine z_e1 (pc1 := 19) (L1 := [some (.ref 0), some (.ref 4), some (.ref 19), some (.int 6)]) (S1 := [.int 6]) zd0_18 rfl rfl rfl ?_
    refine z_e1 (pc1 := 20) (L1 := [some (.ref 0), some (.ref 4), some (.ref 19), some (.int 6)]) (S1 := [.ref 0, .int 6]) zd0_19 rfl rfl rfl ?_
    refine z_ealn (y := 6) zd0_20 h0 rfl ?_
    refine z_e1 (pc1 := 23) (L1 := [some (.ref 0), some (.ref 4), some (.ref 19), some (.int 6)]) (S1 := [.int 6, .int 6, .int 6]) zd0_21 rfl rfl rfl ?_
    refine z_e1 (pc1 := 24) (L1 := [some (.ref 0), some (.ref 4), some (.ref 19), some (.int 6)]) (S1 := [.int 0, .int 6]) zd0_23 rfl rfl rfl ?_
    refine z_ej (t := 1781) (t2 := 1781) zd0_24 rfl rfl ?_
    refine z_e1 (pc1 := 1782) (L1 := [some (.ref 0), some (.ref 4), some (.ref 19), some (.int 6)]) (S1 := [.int 1]) zd0_1781 rfl rfl rfl ?_
    refine z_erz zd0_1782 zr0 (by decide) ?_
    exact z_K1i hN hS (by decide) (by decide)
  · refine z_ez (t := 14) (t2 := 4) zd58_1 rfl (z_b_ltx0 (k := 0) (by decide) e1) ?_
    refine z_e1 (pc1 := 5) (L1 := [some (.int x1)]) (S1 := [.int x1]) zd58_4 rfl rfl rfl ?_
    refine z_e1 (pc1 := 7) (L1 := [some (.int x1)]) (S1 := [.int 6, .int x1]) zd58_5 rfl rfl rfl ?_
    by_cases e2 : x1.toInt < 6
    · refine z_ej (t := 14) (t2 := 10) zd58_7 rfl (z_b_gex1 (k := 6) (by decide) e2) ?_
      refine z_e1 (pc1 := 11) (L1 := [some (.int x1)]) (S1 := [.int 1]) zd58_10 rfl rfl rfl ?_
      refine z_e1 (pc1 := 15) (L1 := [some (.int x1)]) (S1 := [.int 1]) zd58_11 rfl rfl rfl ?_
      refine z_erz zd58_15 zr58 (by decide) ?_
      show z_ev _ 178 4 [some (.ref 4), some (.int x1), some (.int x2)] [.int 1] _ _
      refine z_ez (t := 9) (t2 := 9) zd178_4 rfl rfl ?_
      refine z_e1 (pc1 := 10) (L1 := [some (.ref 4), some (.int x1), some (.int x2)]) (S1 := [.ref 4]) zd178_9 rfl rfl rfl ?_
      refine z_egf (fs := [.ref 5, .ref 10, .ref 11, .int 0, .ref 12, .int 0, .ref 13, .ref 14, .ref 15, .ref 16, .ref 17, .ref 18, .null]) (v := .ref 14) zd178_10 zf178_35 b4 (by decide) (by decide) rfl ?_
      refine z_e1 (pc1 := 14) (L1 := [some (.ref 4), some (.int x1), some (.int x2)]) (S1 := [.int x1, .ref 14]) zd178_13 rfl rfl rfl ?_
      refine z_eial (y := (-1)) zd178_14 b14 (z_inr (show 0 ≤ x1.toInt by omega) (show x1.toInt < (6 : Nat) by omega)) (c14 x1.toNatClampNeg (z_cll (show x1.toInt < (6 : Nat) by omega) (by decide))) ?_
      refine z_e1 (pc1 := 16) (L1 := [some (.ref 4), some (.int x1), some (.int x2)]) (S1 := [.int (-1), .int (-1)]) zd178_15 rfl rfl rfl ?_
      refine z_ej (t := 22) (t2 := 19) zd178_16 rfl rfl ?_
      refine z_e1 (pc1 := 21) (L1 := [some (.ref 4), some (.int x1), some (.int x2)]) (S1 := [.int (-11)]) zd178_19 rfl rfl rfl ?_
      refine z_eri zd178_21 zr178 ?_
      show z_ev _ 177 6 [some (.ref 4), some (.int x1), some (.int x2), some (.long ((((x3 : Int32).toInt64) <<< ((32 : Int32).toInt64 &&& 63)) ||| (((x4 : Int32).toInt64) &&& 4294967295))), none, none] [.int (-11)] _ _
      refine z_e1 (pc1 := 8) (L1 := [some (.ref 4), some (.int x1), some (.int x2), some (.long ((((x3 : Int32).toInt64) <<< ((32 : Int32).toInt64 &&& 63)) ||| (((x4 : Int32).toInt64) &&& 4294967295))), none, some (.int (-11))]) (S1 := []) zd177_6 rfl rfl rfl ?_
      refine z_e1 (pc1 := 10) (L1 := [some (.ref 4), some (.int x1), some (.int x2), some (.long ((((x3 : Int32).toInt64) <<< ((32 : Int32).toInt64 &&& 63)) ||| (((x4 : Int32).toInt64) &&& 4294967295))), none, some (.int (-11))]) (S1 := [.int (-11)]) zd177_8 rfl rfl rfl ?_
      refine z_ez (t := 16) (t2 := 13) zd177_10 rfl rfl ?_
      refine z_e1 (pc1 := 15) (L1 := [some (.ref 4), some (.int x1), some (.int x2), some (.long ((((x3 : Int32).toInt64) <<< ((32 : Int32).toInt64 &&& 63)) ||| (((x4 : Int32).toInt64) &&& 4294967295))), none, some (.int (-11))]) (S1 := [.int (-11)]) zd177_13 rfl rfl rfl ?_
      refine z_eri zd177_15 zr177 ?_
      show z_ev _ 0 1583 [some (.ref 0), some (.ref 4), some (.ref 19), some (.int 0)] [.int (-11)] _ _
      refine z_e1 (pc1 := 1584) (L1 := [some (.ref 0), some (.ref 4), some (.ref 19), some (.int 0)]) (S1 := [.ref 19, .int (-11)]) zd0_1583 rfl rfl rfl ?_
      refine z_e1 (pc1 := 1585) (L1 := [some (.ref 0), some (.ref 4), some (.ref 19), some (.int 0)]) (S1 := [.ref 0, .ref 19, .int (-11)]) zd0_1584 rfl rfl rfl ?_
      refine z_e1 (pc1 := 1586) (L1 := [some (.ref 0), some (.ref 4), some (.ref 19), some (.int 0)]) (S1 := [.int 0, .ref 0, .ref 19, .int (-11)]) zd0_1585 rfl rfl rfl ?_
      refine z_e1 (pc1 := 1587) (L1 := [some (.ref 0), some (.ref 4), some (.ref 19), some (.int 0)]) (S1 := [.int 1, .int 0, .ref 0, .ref 19, .int (-11)]) zd0_1586 rfl rfl rfl ?_
      refine z_e1 (pc1 := 1588) (L1 := [some (.ref 0), some (.ref 4), some (.ref 19), some (.int 0)]) (S1 := [.int 1, .ref 0, .ref 19, .int (-11)]) zd0_1587 rfl rfl rfl ?_
      refine z_eial (y := x1) zd0_1588 h0 (by decide) g1 ?_
      refine z_e1 (pc1 := 1590) (L1 := [some (.ref 0), some (.ref 4), some (.ref 19), some (.int 0)]) (S1 := [.ref 0, .int x1, .ref 19, .int (-11)]) zd0_1589 rfl rfl rfl ?_
      refine z_e1 (pc1 := 1591) (L1 := [some (.ref 0), some (.ref 4), some (.ref 19), some (.int 0)]) (S1 := [.int 0, .ref 0, .int x1, .ref 19, .int (-11)]) zd0_1590 rfl rfl rfl ?_
      refine z_e1 (pc1 := 1592) (L1 := [some (.ref 0), some (.ref 4), some (.ref 19), some (.int 0)]) (S1 := [.int 2, .int 0, .ref 0, .int x1, .ref 19, .int (-11)]) zd0_1591 rfl rfl rfl ?_
      refine z_e1 (pc1 := 1593) (L1 := [some (.ref 0), some (.ref 4), some (.ref 19), some (.int 0)]) (S1 := [.int 2, .ref 0, .int x1, .ref 19, .int (-11)]) zd0_1592 rfl rfl rfl ?_
      refine z_eial (y := x2) zd0_1593 h0 (by decide) g2 ?_
      refine z_e1 (pc1 := 1595) (L1 := [some (.ref 0), some (.ref 4), some (.ref 19), some (.int 0)]) (S1 := [.ref 0, .int x2, .int x1, .ref 19, .int (-11)]) zd0_1594 rfl rfl rfl ?_
      refine z_e1 (pc1 := 1596) (L1 := [some (.ref 0), some (.ref 4), some (.ref 19), some (.int 0)]) (S1 := [.int 0, .ref 0, .int x2, .int x1, .ref 19, .int (-11)]) zd0_1595 rfl rfl rfl ?_
      refine z_e1 (pc1 := 1597) (L1 := [some (.ref 0), some (.ref 4), some (.ref 19), some (.int 0)]) (S1 := [.int 3, .int 0, .ref 0, .int x2, .int x1, .ref 19, .int (-11)]) zd0_1596 rfl rfl rfl ?_
      refine z_e1 (pc1 := 1598) (L1 := [some (.ref 0), some (.ref 4), some (.ref 19), some (.int 0)]) (S1 := [.int 3, .ref 0, .int x2, .int x1, .ref 19, .int (-11)]) zd0_1597 rfl rfl rfl ?_
      refine z_eial (y := x3) zd0_1598 h0 (by decide) g3 ?_
      refine z_e1 (pc1 := 1600) (L1 := [some (.ref 0), some (.ref 4), some (.ref 19), some (.int 0)]) (S1 := [.long ((x3 : Int32).toInt64), .int x2, .int x1, .ref 19, .int (-11)]) zd0_1599 rfl rfl rfl ?_
      refine z_e1 (pc1 := 1602) (L1 := [some (.ref 0), some (.ref 4), some (.ref 19), some (.int 0)]) (S1 := [.int 32, .long ((x3 : Int32).toInt64), .int x2, .int x1, .ref 19, .int (-11)]) zd0_1600 rfl rfl rfl ?_
      refine z_e1 (pc1 := 1603) (L1 := [some (.ref 0), some (.ref 4), some (.ref 19), some (.int 0)]) (S1 := [.long (((x3 : Int32).toInt64) <<< ((32 : Int32).toInt64 &&& 63)), .int x2, .int x1, .ref 19, .int (-11)]) zd0_1602 rfl rfl rfl ?_
      refine z_e1 (pc1 := 1604) (L1 := [some (.ref 0), some (.ref 4), some (.ref 19), some (.int 0)]) (S1 := [.ref 0, .long (((x3 : Int32).toInt64) <<< ((32 : Int32).toInt64 &&& 63)), .int x2, .int x1, .ref 19, .int (-11)]) zd0_1603 rfl rfl rfl ?_
      refine z_e1 (pc1 := 1605) (L1 := [some (.ref 0), some (.ref 4), some (.ref 19), some (.int 0)]) (S1 := [.int 0, .ref 0, .long (((x3 : Int32).toInt64) <<< ((32 : Int32).toInt64 &&& 63)), .int x2, .int x1, .ref 19, .int (-11)]) zd0_1604 rfl rfl rfl ?_
      refine z_e1 (pc1 := 1606) (L1 := [some (.ref 0), some (.ref 4), some (.ref 19), some (.int 0)]) (S1 := [.int 4, .int 0, .ref 0, .long (((x3 : Int32).toInt64) <<< ((32 : Int32).toInt64 &&& 63)), .int x2, .int x1, .ref 19, .int (-11)]) zd0_1605 rfl rfl rfl ?_
      refine z_e1 (pc1 := 1607) (L1 := [some (.ref 0), some (.ref 4), some (.ref 19), some (.int 0)]) (S1 := [.int 4, .ref 0, .long (((x3 : Int32).toInt64) <<< ((32 : Int32).toInt64 &&& 63)), .int x2, .int x1, .ref 19, .int (-11)]) zd0_1606 rfl rfl rfl ?_
      refine z_eial (y := x4) zd0_1607 h0 (by decide) g4 ?_
      refine z_e1 (pc1 := 1609) (L1 := [some (.ref 0), some (.ref 4), some (.ref 19), some (.int 0)]) (S1 := [.long ((x4 : Int32).toInt64), .long (((x3 : Int32).toInt64) <<< ((32 : Int32).toInt64 &&& 63)), .int x2, .int x1, .ref 19, .int (-11)]) zd0_1608 rfl rfl rfl ?_
      refine z_eld2 zd0_1609 zl0_151 ?_
      refine z_e1 (pc1 := 1613) (L1 := [some (.ref 0), some (.ref 4), some (.ref 19), some (.int 0)]) (S1 := [.long (((x4 : Int32).toInt64) &&& 4294967295), .long (((x3 : Int32).toInt64) <<< ((32 : Int32).toInt64 &&& 63)), .int x2, .int x1, .ref 19, .int (-11)]) zd0_1612 rfl rfl rfl ?_
      refine z_e1 (pc1 := 1614) (L1 := [some (.ref 0), some (.ref 4), some (.ref 19), some (.int 0)]) (S1 := [.long ((((x3 : Int32).toInt64) <<< ((32 : Int32).toInt64 &&& 63)) ||| (((x4 : Int32).toInt64) &&& 4294967295)), .int x2, .int x1, .ref 19, .int (-11)]) zd0_1613 rfl rfl rfl ?_
      refine z_ecV (vs := [.ref 19, .int x1, .int x2, .long ((((x3 : Int32).toInt64) <<< ((32 : Int32).toInt64 &&& 63)) ||| (((x4 : Int32).toInt64) &&& 4294967295))]) (r := [.int (-11)]) (L2 := [some (.ref 19), some (.int x1), some (.int x2), some (.long ((((x3 : Int32).toInt64) <<< ((32 : Int32).toInt64 &&& 63)) ||| (((x4 : Int32).toInt64) &&& 4294967295))), none, none]) zd0_1614 zcV0_157 (Or.inl rfl) rfl b19 (by decide) rfl rfl rfl (Nat.le_of_ble_eq_true rfl) zm286 (Nat.le_of_ble_eq_true rfl) rfl ?_
      refine z_e1 (pc1 := 1) (L1 := [some (.ref 19), some (.int x1), some (.int x2), some (.long ((((x3 : Int32).toInt64) <<< ((32 : Int32).toInt64 &&& 63)) ||| (((x4 : Int32).toInt64) &&& 4294967295))), none, none]) (S1 := [.ref 19]) zd286_0 rfl rfl rfl ?_
      refine z_e1 (pc1 := 2) (L1 := [some (.ref 19), some (.int x1), some (.int x2), some (.long ((((x3 : Int32).toInt64) <<< ((32 : Int32).toInt64 &&& 63)) ||| (((x4 : Int32).toInt64) &&& 4294967295))), none, none]) (S1 := [.int x1, .ref 19]) zd286_1 rfl rfl rfl ?_
      refine z_e1 (pc1 := 3) (L1 := [some (.ref 19), some (.int x1), some (.int x2), some (.long ((((x3 : Int32).toInt64) <<< ((32 : Int32).toInt64 &&& 63)) ||| (((x4 : Int32).toInt64) &&& 4294967295))), none, none]) (S1 := [.int x2, .int x1, .ref 19]) zd286_2 rfl rfl rfl ?_
      refine z_ecV (vs := [.ref 19, .int x1, .int x2]) (r := []) (L2 := [some (.ref 19), some (.int x1), some (.int x2)]) zd286_3 zcV286_405 (Or.inl rfl) rfl b19 (by decide) rfl rfl rfl (Nat.le_of_ble_eq_true rfl) zm287 (Nat.le_of_ble_eq_true rfl) rfl ?_
      refine z_e1 (pc1 := 1) (L1 := [some (.ref 19), some (.int x1), some (.int x2)]) (S1 := [.int x1]) zd287_0 rfl rfl rfl ?_
      refine z_ecS (vs := [.int x1]) (r := []) (L2 := [some (.int x1)]) zd287_1 zcS287_237 (Or.inl rfl) (Nat.le_of_ble_eq_true rfl) rfl rfl (Nat.le_of_ble_eq_true rfl) zm225 (Nat.le_of_ble_eq_true rfl) rfl ?_
      refine z_e1 (pc1 := 1) (L1 := [some (.int x1)]) (S1 := [.int x1]) zd225_0 rfl rfl rfl ?_
      refine z_e1 (pc1 := 2) (L1 := [some (.int x1)]) (S1 := [.long ((x1 : Int32).toInt64)]) zd225_1 rfl rfl rfl ?_
      refine z_e1 (pc1 := 3) (L1 := [some (.int x1)]) (S1 := [.long 0, .long ((x1 : Int32).toInt64)]) zd225_2 rfl rfl rfl ?_
      refine z_eld2 zd225_3 zl225_318 ?_
      refine z_ecS (vs := [.long ((x1 : Int32).toInt64), .long 0, .long 5]) (r := []) (L2 := [some (.long ((x1 : Int32).toInt64)), none, some (.long 0), none, some (.long 5), none]) zd225_6 zcS225_116 (Or.inl rfl) (Nat.le_of_ble_eq_true rfl) rfl rfl (Nat.le_of_ble_eq_true rfl) zm189 (Nat.le_of_ble_eq_true rfl) rfl ?_
      refine z_e1 (pc1 := 1) (L1 := [some (.long ((x1 : Int32).toInt64)), none, some (.long 0), none, some (.long 5), none]) (S1 := [.long ((x1 : Int32).toInt64)]) zd189_0 rfl rfl rfl ?_
      refine z_e1 (pc1 := 2) (L1 := [some (.long ((x1 : Int32).toInt64)), none, some (.long 0), none, some (.long 5), none]) (S1 := [.long 0, .long ((x1 : Int32).toInt64)]) zd189_1 rfl rfl rfl ?_
      refine z_e1 (pc1 := 3) (L1 := [some (.long ((x1 : Int32).toInt64)), none, some (.long 0), none, some (.long 5), none]) (S1 := [.int (lg_cmp ((x1 : Int32).toInt64) 0)]) zd189_2 rfl rfl rfl ?_
      refine z_ez (t := 17) (t2 := 6) zd189_3 rfl (z_b_ltl0 (k := 0) (by decide) (show ¬ x1.toInt < 0 from by omega)) ?_
      refine z_e1 (pc1 := 7) (L1 := [some (.long ((x1 : Int32).toInt64)), none, some (.long 0), none, some (.long 5), none]) (S1 := [.long ((x1 : Int32).toInt64)]) zd189_6 rfl rfl rfl ?_
      refine z_e1 (pc1 := 9) (L1 := [some (.long ((x1 : Int32).toInt64)), none, some (.long 0), none, some (.long 5), none]) (S1 := [.long 5, .long ((x1 : Int32).toInt64)]) zd189_7 rfl rfl rfl ?_
      refine z_e1 (pc1 := 10) (L1 := [some (.long ((x1 : Int32).toInt64)), none, some (.long 0), none, some (.long 5), none]) (S1 := [.int (lg_cmp ((x1 : Int32).toInt64) 5)]) zd189_9 rfl rfl rfl ?_
      refine z_ez (t := 17) (t2 := 13) zd189_10 rfl (z_b_gtl0 (k := 5) (by decide) (show ¬ 5 < x1.toInt from by omega)) ?_
      refine z_e1 (pc1 := 14) (L1 := [some (.long ((x1 : Int32).toInt64)), none, some (.long 0), none, some (.long 5), none]) (S1 := [.int 1]) zd189_13 rfl rfl rfl ?_
      refine z_e1 (pc1 := 18) (L1 := [some (.long ((x1 : Int32).toInt64)), none, some (.long 0), none, some (.long 5), none]) (S1 := [.int 1]) zd189_14 rfl rfl rfl ?_
      refine z_erz zd189_18 zr189 (by decide) ?_
      show z_ev _ 225 9 [some (.int x1)] [.int 1] _ _
      refine z_erz zd225_9 zr225 (by decide) ?_
      show z_ev _ 287 4 [some (.ref 19), some (.int x1), some (.int x2)] [.int 1] _ _
      refine z_ez (t := 9) (t2 := 9) zd287_4 rfl rfl ?_
      refine z_e1 (pc1 := 10) (L1 := [some (.ref 19), some (.int x1), some (.int x2)]) (S1 := [.ref 19]) zd287_9 rfl rfl rfl ?_
      refine z_egf (fs := [.ref 20, .int 0, .ref 21, .ref 22, .ref 23, .ref 24, .ref 25, .ref 26, .ref 27, .ref 28, .ref 29, .ref 30, .ref 31, .int 0, .ref 32, .ref 33, .ref 34, .ref 35, .ref 36, .ref 37, .ref 38, .int 0, .int 0, .int 0, .int 0, .int 0, .int 0, .int 0, .int 0, .int 0, .int 0, .ref 39, .ref 40, .ref 41, .int 0, .int 0, .ref 42, .ref 43, .ref 44, .ref 45, .ref 46, .int 0, .ref 47, .int 0, .int 0, .int 0, .ref 48, .int 0, .int 0, .ref 49, .ref 50, .ref 51, .ref 52]) (v := .ref 49) zd287_10 zf287_97 b19 (by decide) (by decide) rfl ?_
      refine z_e1 (pc1 := 14) (L1 := [some (.ref 19), some (.int x1), some (.int x2)]) (S1 := [.int x1, .ref 49]) zd287_13 rfl rfl rfl ?_
      refine z_eial (y := (-1)) zd287_14 b49 (z_inr (show 0 ≤ x1.toInt by omega) (show x1.toInt < (6 : Nat) by omega)) (c49 x1.toNatClampNeg (z_cll (show x1.toInt < (6 : Nat) by omega) (by decide))) ?_
      refine z_ez (t := 21) (t2 := 18) zd287_15 rfl rfl ?_
      refine z_e1 (pc1 := 20) (L1 := [some (.ref 19), some (.int x1), some (.int x2)]) (S1 := [.int (-11)]) zd287_18 rfl rfl rfl ?_
      refine z_eri zd287_20 zr287 ?_
      show z_ev _ 286 6 [some (.ref 19), some (.int x1), some (.int x2), some (.long ((((x3 : Int32).toInt64) <<< ((32 : Int32).toInt64 &&& 63)) ||| (((x4 : Int32).toInt64) &&& 4294967295))), none, none] [.int (-11)] _ _
      refine z_e1 (pc1 := 8) (L1 := [some (.ref 19), some (.int x1), some (.int x2), some (.long ((((x3 : Int32).toInt64) <<< ((32 : Int32).toInt64 &&& 63)) ||| (((x4 : Int32).toInt64) &&& 4294967295))), none, some (.int (-11))]) (S1 := []) zd286_6 rfl rfl rfl ?_
      refine z_e1 (pc1 := 10) (L1 := [some (.ref 19), some (.int x1), some (.int x2), some (.long ((((x3 : Int32).toInt64) <<< ((32 : Int32).toInt64 &&& 63)) ||| (((x4 : Int32).toInt64) &&& 4294967295))), none, some (.int (-11))]) (S1 := [.int (-11)]) zd286_8 rfl rfl rfl ?_
      refine z_ez (t := 37) (t2 := 37) zd286_10 rfl rfl ?_
      refine z_e1 (pc1 := 39) (L1 := [some (.ref 19), some (.int x1), some (.int x2), some (.long ((((x3 : Int32).toInt64) <<< ((32 : Int32).toInt64 &&& 63)) ||| (((x4 : Int32).toInt64) &&& 4294967295))), none, some (.int (-11))]) (S1 := [.int (-11)]) zd286_37 rfl rfl rfl ?_
      refine z_ez (t := 46) (t2 := 46) zd286_39 rfl rfl ?_
      refine z_e1 (pc1 := 48) (L1 := [some (.ref 19), some (.int x1), some (.int x2), some (.long ((((x3 : Int32).toInt64) <<< ((32 : Int32).toInt64 &&& 63)) ||| (((x4 : Int32).toInt64) &&& 4294967295))), none, some (.int (-11))]) (S1 := [.int (-11)]) zd286_46 rfl rfl rfl ?_
      refine z_eri zd286_48 zr286 ?_
      show z_ev _ 0 1617 [some (.ref 0), some (.ref 4), some (.ref 19), some (.int 0)] [.int (-11), .int (-11)] _ _
      refine z_ej (t := 1775) (t2 := 1775) zd0_1617 rfl rfl ?_
      refine z_e1 (pc1 := 1778) (L1 := [some (.ref 0), some (.ref 4), some (.ref 19), some (.int 6)]) (S1 := []) zd0_1775 rfl rfl rfl ?_
      refine z_e1 (pc1 := 18) (L1 := [some (.ref 0), some (.ref 4), some (.ref 19), some (.int 6)]) (S1 := []) zd0_1778 rfl rfl rfl ?_
      refine z_e1 (pc1 := 19) (L1 := [some (.ref 0), some (.ref 4), some (.ref 19), some (.int 6)]) (S1 := [.int 6]) zd0_18 rfl rfl rfl ?_
      refine z_e1 (pc1 := 20) (L1 := [some (.ref 0), some (.ref 4), some (.ref 19), some (.int 6)]) (S1 := [.ref 0, .int 6]) zd0_19 rfl rfl rfl ?_
      refine z_ealn (y := 6) zd0_20 h0 rfl ?_
      refine z_e1 (pc1 := 23) (L1 := [some (.ref 0), some (.ref 4), some (.ref 19), some (.int 6)]) (S1 := [.int 6, .int 6, .int 6]) zd0_21 rfl rfl rfl ?_
      refine z_e1 (pc1 := 24) (L1 := [some (.ref 0), some (.ref 4), some (.ref 19), some (.int 6)]) (S1 := [.int 0, .int 6]) zd0_23 rfl rfl rfl ?_
      refine z_ej (t := 1781) (t2 := 1781) zd0_24 rfl rfl ?_
      refine z_e1 (pc1 := 1782) (L1 := [some (.ref 0), some (.ref 4), some (.ref 19), some (.int 6)]) (S1 := [.int 1]) zd0_1781 rfl rfl rfl ?_
      refine z_erz zd0_1782 zr0 (by decide) ?_
      exact z_K1i hN hS (by decide) (by decide)
    · refine z_ej (t := 14) (t2 := 14) zd58_7 rfl (z_b_gex0 (k := 6) (by decide) e2) ?_
      refine z_e1 (pc1 := 15) (L1 := [some (.int x1)]) (S1 := [.int 0]) zd58_14 rfl rfl rfl ?_
      refine z_erz zd58_15 zr58 (by decide) ?_
      show z_ev _ 178 4 [some (.ref 4), some (.int x1), some (.int x2)] [.int 0] _ _
      refine z_ez (t := 9) (t2 := 7) zd178_4 rfl rfl ?_
      refine z_e1 (pc1 := 8) (L1 := [some (.ref 4), some (.int x1), some (.int x2)]) (S1 := [.int (-1)]) zd178_7 rfl rfl rfl ?_
      refine z_eri zd178_8 zr178 ?_
      show z_ev _ 177 6 [some (.ref 4), some (.int x1), some (.int x2), some (.long ((((x3 : Int32).toInt64) <<< ((32 : Int32).toInt64 &&& 63)) ||| (((x4 : Int32).toInt64) &&& 4294967295))), none, none] [.int (-1)] _ _
      refine z_e1 (pc1 := 8) (L1 := [some (.ref 4), some (.int x1), some (.int x2), some (.long ((((x3 : Int32).toInt64) <<< ((32 : Int32).toInt64 &&& 63)) ||| (((x4 : Int32).toInt64) &&& 4294967295))), none, some (.int (-1))]) (S1 := []) zd177_6 rfl rfl rfl ?_
      refine z_e1 (pc1 := 10) (L1 := [some (.ref 4), some (.int x1), some (.int x2), some (.long ((((x3 : Int32).toInt64) <<< ((32 : Int32).toInt64 &&& 63)) ||| (((x4 : Int32).toInt64) &&& 4294967295))), none, some (.int (-1))]) (S1 := [.int (-1)]) zd177_8 rfl rfl rfl ?_
      refine z_ez (t := 16) (t2 := 13) zd177_10 rfl rfl ?_
      refine z_e1 (pc1 := 15) (L1 := [some (.ref 4), some (.int x1), some (.int x2), some (.long ((((x3 : Int32).toInt64) <<< ((32 : Int32).toInt64 &&& 63)) ||| (((x4 : Int32).toInt64) &&& 4294967295))), none, some (.int (-1))]) (S1 := [.int (-1)]) zd177_13 rfl rfl rfl ?_
      refine z_eri zd177_15 zr177 ?_
      show z_ev _ 0 1583 [some (.ref 0), some (.ref 4), some (.ref 19), some (.int 0)] [.int (-1)] _ _
      refine z_e1 (pc1 := 1584) (L1 := [some (.ref 0), some (.ref 4), some (.ref 19), some (.int 0)]) (S1 := [.ref 19, .int (-1)]) zd0_1583 rfl rfl rfl ?_
      refine z_e1 (pc1 := 1585) (L1 := [some (.ref 0), some (.ref 4), some (.ref 19), some (.int 0)]) (S1 := [.ref 0, .ref 19, .int (-1)]) zd0_1584 rfl rfl rfl ?_
      refine z_e1 (pc1 := 1586) (L1 := [some (.ref 0), some (.ref 4), some (.ref 19), some (.int 0)]) (S1 := [.int 0, .ref 0, .ref 19, .int (-1)]) zd0_1585 rfl rfl rfl ?_
      refine z_e1 (pc1 := 1587) (L1 := [some (.ref 0), some (.ref 4), some (.ref 19), some (.int 0)]) (S1 := [.int 1, .int 0, .ref 0, .ref 19, .int (-1)]) zd0_1586 rfl rfl rfl ?_
      refine z_e1 (pc1 := 1588) (L1 := [some (.ref 0), some (.ref 4), some (.ref 19), some (.int 0)]) (S1 := [.int 1, .ref 0, .ref 19, .int (-1)]) zd0_1587 rfl rfl rfl ?_
      refine z_eial (y := x1) zd0_1588 h0 (by decide) g1 ?_
      refine z_e1 (pc1 := 1590) (L1 := [some (.ref 0), some (.ref 4), some (.ref 19), some (.int 0)]) (S1 := [.ref 0, .int x1, .ref 19, .int (-1)]) zd0_1589 rfl rfl rfl ?_
      refine z_e1 (pc1 := 1591) (L1 := [some (.ref 0), some (.ref 4), some (.ref 19), some (.int 0)]) (S1 := [.int 0, .ref 0, .int x1, .ref 19, .int (-1)]) zd0_1590 rfl rfl rfl ?_
      refine z_e1 (pc1 := 1592) (L1 := [some (.ref 0), some (.ref 4), some (.ref 19), some (.int 0)]) (S1 := [.int 2, .int 0, .ref 0, .int x1, .ref 19, .int (-1)]) zd0_1591 rfl rfl rfl ?_
      refine z_e1 (pc1 := 1593) (L1 := [some (.ref 0), some (.ref 4), some (.ref 19), some (.int 0)]) (S1 := [.int 2, .ref 0, .int x1, .ref 19, .int (-1)]) zd0_1592 rfl rfl rfl ?_
      refine z_eial (y := x2) zd0_1593 h0 (by decide) g2 ?_
      refine z_e1 (pc1 := 1595) (L1 := [some (.ref 0), some (.ref 4), some (.ref 19), some (.int 0)]) (S1 := [.ref 0, .int x2, .int x1, .ref 19, .int (-1)]) zd0_1594 rfl rfl rfl ?_
      refine z_e1 (pc1 := 1596) (L1 := [some (.ref 0), some (.ref 4), some (.ref 19), some (.int 0)]) (S1 := [.int 0, .ref 0, .int x2, .int x1, .ref 19, .int (-1)]) zd0_1595 rfl rfl rfl ?_
      refine z_e1 (pc1 := 1597) (L1 := [some (.ref 0), some (.ref 4), some (.ref 19), some (.int 0)]) (S1 := [.int 3, .int 0, .ref 0, .int x2, .int x1, .ref 19, .int (-1)]) zd0_1596 rfl rfl rfl ?_
      refine z_e1 (pc1 := 1598) (L1 := [some (.ref 0), some (.ref 4), some (.ref 19), some (.int 0)]) (S1 := [.int 3, .ref 0, .int x2, .int x1, .ref 19, .int (-1)]) zd0_1597 rfl rfl rfl ?_
      refine z_eial (y := x3) zd0_1598 h0 (by decide) g3 ?_
      refine z_e1 (pc1 := 1600) (L1 := [some (.ref 0), some (.ref 4), some (.ref 19), some (.int 0)]) (S1 := [.long ((x3 : Int32).toInt64), .int x2, .int x1, .ref 19, .int (-1)]) zd0_1599 rfl rfl rfl ?_
      refine z_e1 (pc1 := 1602) (L1 := [some (.ref 0), some (.ref 4), some (.ref 19), some (.int 0)]) (S1 := [.int 32, .long ((x3 : Int32).toInt64), .int x2, .int x1, .ref 19, .int (-1)]) zd0_1600 rfl rfl rfl ?_
      refine z_e1 (pc1 := 1603) (L1 := [some (.ref 0), some (.ref 4), some (.ref 19), some (.int 0)]) (S1 := [.long (((x3 : Int32).toInt64) <<< ((32 : Int32).toInt64 &&& 63)), .int x2, .int x1, .ref 19, .int (-1)]) zd0_1602 rfl rfl rfl ?_
      refine z_e1 (pc1 := 1604) (L1 := [some (.ref 0), some (.ref 4), some (.ref 19), some (.int 0)]) (S1 := [.ref 0, .long (((x3 : Int32).toInt64) <<< ((32 : Int32).toInt64 &&& 63)), .int x2, .int x1, .ref 19, .int (-1)]) zd0_1603 rfl rfl rfl ?_
      refine z_e1 (pc1 := 1605) (L1 := [some (.ref 0), some (.ref 4), some (.ref 19), some (.int 0)]) (S1 := [.int 0, .ref 0, .long (((x3 : Int32).toInt64) <<< ((32 : Int32).toInt64 &&& 63)), .int x2, .int x1, .ref 19, .int (-1)]) zd0_1604 rfl rfl rfl ?_
      refine z_e1 (pc1 := 1606) (L1 := [some (.ref 0), some (.ref 4), some (.ref 19), some (.int 0)]) (S1 := [.int 4, .int 0, .ref 0, .long (((x3 : Int32).toInt64) <<< ((32 : Int32).toInt64 &&& 63)), .int x2, .int x1, .ref 19, .int (-1)]) zd0_1605 rfl rfl rfl ?_
      refine z_e1 (pc1 := 1607) (L1 := [some (.ref 0), some (.ref 4), some (.ref 19), some (.int 0)]) (S1 := [.int 4, .ref 0, .long (((x3 : Int32).toInt64) <<< ((32 : Int32).toInt64 &&& 63)), .int x2, .int x1, .ref 19, .int (-1)]) zd0_1606 rfl rfl rfl ?_
      refine z_eial (y := x4) zd0_1607 h0 (by decide) g4 ?_
      refine z_e1 (pc1 := 1609) (L1 := [some (.ref 0), some (.ref 4), some (.ref 19), some (.int 0)]) (S1 := [.long ((x4 : Int32).toInt64), .long (((x3 : Int32).toInt64) <<< ((32 : Int32).toInt64 &&& 63)), .int x2, .int x1, .ref 19, .int (-1)]) zd0_1608 rfl rfl rfl ?_
      refine z_eld2 zd0_1609 zl0_151 ?_
      refine z_e1 (pc1 := 1613) (L1 := [some (.ref 0), some (.ref 4), some (.ref 19), some (.int 0)]) (S1 := [.long (((x4 : Int32).toInt64) &&& 4294967295), .long (((x3 : Int32).toInt64) <<< ((32 : Int32).toInt64 &&& 63)), .int x2, .int x1, .ref 19, .int (-1)]) zd0_1612 rfl rfl rfl ?_
      refine z_e1 (pc1 := 1614) (L1 := [some (.ref 0), some (.ref 4), some (.ref 19), some (.int 0)]) (S1 := [.long ((((x3 : Int32).toInt64) <<< ((32 : Int32).toInt64 &&& 63)) ||| (((x4 : Int32).toInt64) &&& 4294967295)), .int x2, .int x1, .ref 19, .int (-1)]) zd0_1613 rfl rfl rfl ?_
      refine z_ecV (vs := [.ref 19, .int x1, .int x2, .long ((((x3 : Int32).toInt64) <<< ((32 : Int32).toInt64 &&& 63)) ||| (((x4 : Int32).toInt64) &&& 4294967295))]) (r := [.int (-1)]) (L2 := [some (.ref 19), some (.int x1), some (.int x2), some (.long ((((x3 : Int32).toInt64) <<< ((32 : Int32).toInt64 &&& 63)) ||| (((x4 : Int32).toInt64) &&& 4294967295))), none, none]) zd0_1614 zcV0_157 (Or.inl rfl) rfl b19 (by decide) rfl rfl rfl (Nat.le_of_ble_eq_true rfl) zm286 (Nat.le_of_ble_eq_true rfl) rfl ?_
      refine z_e1 (pc1 := 1) (L1 := [some (.ref 19), some (.int x1), some (.int x2), some (.long ((((x3 : Int32).toInt64) <<< ((32 : Int32).toInt64 &&& 63)) ||| (((x4 : Int32).toInt64) &&& 4294967295))), none, none]) (S1 := [.ref 19]) zd286_0 rfl rfl rfl ?_
      refine z_e1 (pc1 := 2) (L1 := [some (.ref 19), some (.int x1), some (.int x2), some (.long ((((x3 : Int32).toInt64) <<< ((32 : Int32).toInt64 &&& 63)) ||| (((x4 : Int32).toInt64) &&& 4294967295))), none, none]) (S1 := [.int x1, .ref 19]) zd286_1 rfl rfl rfl ?_
      refine z_e1 (pc1 := 3) (L1 := [some (.ref 19), some (.int x1), some (.int x2), some (.long ((((x3 : Int32).toInt64) <<< ((32 : Int32).toInt64 &&& 63)) ||| (((x4 : Int32).toInt64) &&& 4294967295))), none, none]) (S1 := [.int x2, .int x1, .ref 19]) zd286_2 rfl rfl rfl ?_
      refine z_ecV (vs := [.ref 19, .int x1, .int x2]) (r := []) (L2 := [some (.ref 19), some (.int x1), some (.int x2)]) zd286_3 zcV286_405 (Or.inl rfl) rfl b19 (by decide) rfl rfl rfl (Nat.le_of_ble_eq_true rfl) zm287 (Nat.le_of_ble_eq_true rfl) rfl ?_
      refine z_e1 (pc1 := 1) (L1 := [some (.ref 19), some (.int x1), some (.int x2)]) (S1 := [.int x1]) zd287_0 rfl rfl rfl ?_
      refine z_ecS (vs := [.int x1]) (r := []) (L2 := [some (.int x1)]) zd287_1 zcS287_237 (Or.inl rfl) (Nat.le_of_ble_eq_true rfl) rfl rfl (Nat.le_of_ble_eq_true rfl) zm225 (Nat.le_of_ble_eq_true rfl) rfl ?_
      refine z_e1 (pc1 := 1) (L1 := [some (.int x1)]) (S1 := [.int x1]) zd225_0 rfl rfl rfl ?_
      refine z_e1 (pc1 := 2) (L1 := [some (.int x1)]) (S1 := [.long ((x1 : Int32).toInt64)]) zd225_1 rfl rfl rfl ?_
      refine z_e1 (pc1 := 3) (L1 := [some (.int x1)]) (S1 := [.long 0, .long ((x1 : Int32).toInt64)]) zd225_2 rfl rfl rfl ?_
      refine z_eld2 zd225_3 zl225_318 ?_
      refine z_ecS (vs := [.long ((x1 : Int32).toInt64), .long 0, .long 5]) (r := []) (L2 := [some (.long ((x1 : Int32).toInt64)), none, some (.long 0), none, some (.long 5), none]) zd225_6 zcS225_116 (Or.inl rfl) (Nat.le_of_ble_eq_true rfl) rfl rfl (Nat.le_of_ble_eq_true rfl) zm189 (Nat.le_of_ble_eq_true rfl) rfl ?_
      refine z_e1 (pc1 := 1) (L1 := [some (.long ((x1 : Int32).toInt64)), none, some (.long 0), none, some (.long 5), none]) (S1 := [.long ((x1 : Int32).toInt64)]) zd189_0 rfl rfl rfl ?_
      refine z_e1 (pc1 := 2) (L1 := [some (.long ((x1 : Int32).toInt64)), none, some (.long 0), none, some (.long 5), none]) (S1 := [.long 0, .long ((x1 : Int32).toInt64)]) zd189_1 rfl rfl rfl ?_
      refine z_e1 (pc1 := 3) (L1 := [some (.long ((x1 : Int32).toInt64)), none, some (.long 0), none, some (.long 5), none]) (S1 := [.int (lg_cmp ((x1 : Int32).toInt64) 0)]) zd189_2 rfl rfl rfl ?_
      refine z_ez (t := 17) (t2 := 6) zd189_3 rfl (z_b_ltl0 (k := 0) (by decide) (show ¬ x1.toInt < 0 from by omega)) ?_
      refine z_e1 (pc1 := 7) (L1 := [some (.long ((x1 : Int32).toInt64)), none, some (.long 0), none, some (.long 5), none]) (S1 := [.long ((x1 : Int32).toInt64)]) zd189_6 rfl rfl rfl ?_
      refine z_e1 (pc1 := 9) (L1 := [some (.long ((x1 : Int32).toInt64)), none, some (.long 0), none, some (.long 5), none]) (S1 := [.long 5, .long ((x1 : Int32).toInt64)]) zd189_7 rfl rfl rfl ?_
      refine z_e1 (pc1 := 10) (L1 := [some (.long ((x1 : Int32).toInt64)), none, some (.long 0), none, some (.long 5), none]) (S1 := [.int (lg_cmp ((x1 : Int32).toInt64) 5)]) zd189_9 rfl rfl rfl ?_
      refine z_ez (t := 17) (t2 := 17) zd189_10 rfl (z_b_gtl1 (k := 5) (by decide) (show 5 < x1.toInt from by omega)) ?_
      refine z_e1 (pc1 := 18) (L1 := [some (.long ((x1 : Int32).toInt64)), none, some (.long 0), none, some (.long 5), none]) (S1 := [.int 0]) zd189_17 rfl rfl rfl ?_
      refine z_erz zd189_18 zr189 (by decide) ?_
      show z_ev _ 225 9 [some (.int x1)] [.int 0] _ _
      refine z_erz zd225_9 zr225 (by decide) ?_
      show z_ev _ 287 4 [some (.ref 19), some (.int x1), some (.int x2)] [.int 0] _ _
      refine z_ez (t := 9) (t2 := 7) zd287_4 rfl rfl ?_
      refine z_e1 (pc1 := 8) (L1 := [some (.ref 19), some (.int x1), some (.int x2)]) (S1 := [.int (-1)]) zd287_7 rfl rfl rfl ?_
      refine z_eri zd287_8 zr287 ?_
      show z_ev _ 286 6 [some (.ref 19), some (.int x1), some (.int x2), some (.long ((((x3 : Int32).toInt64) <<< ((32 : Int32).toInt64 &&& 63)) ||| (((x4 : Int32).toInt64) &&& 4294967295))), none, none] [.int (-1)] _ _
      refine z_e1 (pc1 := 8) (L1 := [some (.ref 19), some (.int x1), some (.int x2), some (.long ((((x3 : Int32).toInt64) <<< ((32 : Int32).toInt64 &&& 63)) ||| (((x4 : Int32).toInt64) &&& 4294967295))), none, some (.int (-1))]) (S1 := []) zd286_6 rfl rfl rfl ?_
      refine z_e1 (pc1 := 10) (L1 := [some (.ref 19), some (.int x1), some (.int x2), some (.long ((((x3 : Int32).toInt64) <<< ((32 : Int32).toInt64 &&& 63)) ||| (((x4 : Int32).toInt64) &&& 4294967295))), none, some (.int (-1))]) (S1 := [.int (-1)]) zd286_8 rfl rfl rfl ?_
      refine z_ez (t := 37) (t2 := 37) zd286_10 rfl rfl ?_
      refine z_e1 (pc1 := 39) (L1 := [some (.ref 19), some (.int x1), some (.int x2), some (.long ((((x3 : Int32).toInt64) <<< ((32 : Int32).toInt64 &&& 63)) ||| (((x4 : Int32).toInt64) &&& 4294967295))), none, some (.int (-1))]) (S1 := [.int (-1)]) zd286_37 rfl rfl rfl ?_
      refine z_ez (t := 46) (t2 := 46) zd286_39 rfl rfl ?_
      refine z_e1 (pc1 := 48) (L1 := [some (.ref 19), some (.int x1), some (.int x2), some (.long ((((x3 : Int32).toInt64) <<< ((32 : Int32).toInt64 &&& 63)) ||| (((x4 : Int32).toInt64) &&& 4294967295))), none, some (.int (-1))]) (S1 := [.int (-1)]) zd286_46 rfl rfl rfl ?_
      refine z_eri zd286_48 zr286 ?_
      show z_ev _ 0 1617 [some (.ref 0), some (.ref 4), some (.ref 19), some (.int 0)] [.int (-1), .int (-1)] _ _
      refine z_ej (t := 1775) (t2 := 1775) zd0_1617 rfl rfl ?_
      refine z_e1 (pc1 := 1778) (L1 := [some (.ref 0), some (.ref 4), some (.ref 19), some (.int 6)]) (S1 := []) zd0_1775 rfl rfl rfl ?_
      refine z_e1 (pc1 := 18) (L1 := [some (.ref 0), some (.ref 4), some (.ref 19), some (.int 6)]) (S1 := []) zd0_1778 rfl rfl rfl ?_
      refine z_e1 (pc1 := 19) (L1 := [some (.ref 0), some (.ref 4), some (.ref 19), some (.int 6)]) (S1 := [.int 6]) zd0_18 rfl rfl rfl ?_
      refine z_e1 (pc1 := 20) (L1 := [some (.ref 0), some (.ref 4), some (.ref 19), some (.int 6)]) (S1 := [.ref 0, .int 6]) zd0_19 rfl rfl rfl ?_
      refine z_ealn (y := 6) zd0_20 h0 rfl ?_
      refine z_e1 (pc1 := 23) (L1 := [some (.ref 0), some (.ref 4), some (.ref 19), some (.int 6)]) (S1 := [.int 6, .int 6, .int 6]) zd0_21 rfl rfl rfl ?_
      refine z_e1 (pc1 := 24) (L1 := [some (.ref 0), some (.ref 4), some (.ref 19), some (.int 6)]) (S1 := [.int 0, .int 6]) zd0_23 rfl rfl rfl ?_
      refine z_ej (t := 1781) (t2 := 1781) zd0_24 rfl rfl ?_
      refine z_e1 (pc1 := 1782) (L1 := [some (.ref 0), some (.ref 4), some (.ref 19), some (.int 6)]) (S1 := [.int 1]) zd0_1781 rfl rfl rfl ?_
      refine z_erz zd0_1782 zr0 (by decide) ?_
      exact z_K1i hN hS (by decide) (by decide)
theorem z_C34 {M : zH} {xs : Nat → Int32} {x1 x2 x3 x4 x5 : Int32} (h0 : M[0]? = some (.inl (0, 6, .inl xs))) (hN : M.length = 53) (hS : z_sz M ≤ 50000) (hB : z_fr M 4 53) (g1 : xs 1 = x1) (g2 : xs 2 = x2) (g3 : xs 3 = x3) (g4 : xs 4 = x4) (g5 : xs 5 = x5) : z_ev 2047 0 1622 [some (.ref 0), some (.ref 4), some (.ref 19), some (.int 0)] [] M z_K1 := by
  have b4 := z_qO (hB 4 (by decide) (by decide))
  obtain ⟨f14, b14, c14⟩ := z_qI (hB 14 (by decide) (by decide))
  have b19 := z_qO (hB 19 (by decide) (by decide))
  obtain ⟨f49, b49, c49⟩ := z_qI (hB 49 (by decide) (by decide))
  refine z_e1 (pc1 := 1623) (L1 := [some (.ref 0), some (.ref 4), some (.ref 19), some (.int 0)]) (S1 := [.ref 4]) zd0_1622 rfl rfl rfl ?_
  refine z_e1 (pc1 := 1624) (L1 := [some (.ref 0), some (.ref 4), some (.ref 19), some (.int 0)]) (S1 := [.ref 0, .ref 4]) zd0_1623 rfl rfl rfl ?_
  refine z_e1 (pc1 := 1625) (L1 := [some (.ref 0), some (.ref 4), some (.ref 19), some (.int 0)]) (S1 := [.int 0, .ref 0, .ref 4]) zd0_1624 rfl rfl rfl ?_
  refine z_e1 (pc1 := 1626) (L1 := [some (.ref 0), some (.ref 4), some (.ref 19), some (.int 0)]) (S1 := [.int 1, .int 0, .ref 0, .ref 4]) zd0_1625 rfl rfl rfl ?_
  refine z_e1 (pc1 := 1627) (L1 := [some (.ref 0), some (.ref 4), some (.ref 19), some (.int 0)]) (S1 := [.int 1, .ref 0, .ref 4]) zd0_1626 rfl rfl rfl ?_
  refine z_eial (y := x1) zd0_1627 h0 (by decide) g1 ?_
  refine z_e1 (pc1 := 1629) (L1 := [some (.ref 0), some (.ref 4), some (.ref 19), some (.int 0)]) (S1 := [.ref 0, .int x1, .ref 4]) zd0_1628 rfl rfl rfl ?_
  refine z_e1 (pc1 := 1630) (L1 := [some (.ref 0), some (.ref 4), some (.ref 19), some (.int 0)]) (S1 := [.int 0, .ref 0, .int x1, .ref 4]) zd0_1629 rfl rfl rfl ?_
  refine z_e1 (pc1 := 1631) (L1 := [some (.ref 0), some (.ref 4), some (.ref 19), some (.int 0)]) (S1 := [.int 2, .int 0, .ref 0, .int x1, .ref 4]) zd0_1630 rfl rfl rfl ?_
  refine z_e1 (pc1 := 1632) (L1 := [some (.ref 0), some (.ref 4), some (.ref 19), some (.int 0)]) (S1 := [.int 2, .ref 0, .int x1, .ref 4]) zd0_1631 rfl rfl rfl ?_
  refine z_eial (y := x2) zd0_1632 h0 (by decide) g2 ?_
  refine z_ecV (vs := [.ref 4, .int x1, .int x2]) (r := []) (L2 := [some (.ref 4), some (.int x1), some (.int x2)]) zd0_1633 zcV0_158 (Or.inl rfl) rfl b4 (by decide) rfl rfl rfl (Nat.le_of_ble_eq_true rfl) zm180 (Nat.le_of_ble_eq_true rfl) rfl ?_
  refine z_e1 (pc1 := 1) (L1 := [some (.ref 4), some (.int x1), some (.int x2)]) (S1 := [.ref 4]) zd180_0 rfl rfl rfl ?_
  refine z_e1 (pc1 := 2) (L1 := [some (.ref 4), some (.int x1), some (.int x2)]) (S1 := [.int x1, .ref 4]) zd180_1 rfl rfl rfl ?_
  refine z_e1 (pc1 := 3) (L1 := [some (.ref 4), some (.int x1), some (.int x2)]) (S1 := [.int x2, .int x1, .ref 4]) zd180_2 rfl rfl rfl ?_
  refine z_ecV (vs := [.ref 4, .int x1, .int x2]) (r := []) (L2 := [some (.ref 4), some (.int x1), some (.int x2)]) zd180_3 zcV180_313 (Or.inl rfl) rfl b4 (by decide) rfl rfl rfl (Nat.le_of_ble_eq_true rfl) zm178 (Nat.le_of_ble_eq_true rfl) rfl ?_
  refine z_e1 (pc1 := 1) (L1 := [some (.ref 4), some (.int x1), some (.int x2)]) (S1 := [.int x1]) zd178_0 rfl rfl rfl ?_
  refine z_ecS (vs := [.int x1]) (r := []) (L2 := [some (.int x1)]) zd178_1 zcS178_148 (Or.inl rfl) (Nat.le_of_ble_eq_true rfl) rfl rfl (Nat.le_of_ble_eq_true rfl) zm58 (Nat.le_of_ble_eq_true rfl) rfl ?_
  refine z_e1 (pc1 := 1) (L1 := [some (.int x1)]) (S1 := [.int x1]) zd58_0 rfl rfl rfl ?_
  by_cases e1 : x1.toInt < 0
  · refine z_ez (t := 14) (t2 := 14) zd58_1 rfl (z_b_ltx1 (k := 0) (by decide) e1) ?_
    refine z_e1 (pc1 := 15) (L1 := [some (.int x1)]) (S1 := [.int 0]) zd58_14 rfl rfl rfl ?_
    refine z_erz zd58_15 zr58 (by decide) ?_
    show z_ev _ 178 4 [some (.ref 4), some (.int x1), some (.int x2)] [.int 0] _ _
    refine z_ez (t := 9) (t2 := 7) zd178_4 rfl rfl ?_
    refine z_e1 (pc1 := 8) (L1 := [some (.ref 4), some (.int x1), some (.int x2)]) (S1 := [.int (-1)]) zd178_7 rfl rfl rfl ?_
    refine z_eri zd178_8 zr178 ?_
    show z_ev _ 180 6 [some (.ref 4), some (.int x1), some (.int x2)] [.int (-1)] _ _
    refine z_ez (t := 13) (t2 := 9) zd180_6 rfl rfl ?_
    refine z_eld2 zd180_9 zl180_322 ?_
    refine z_erl zd180_12 zr180 ?_
    show z_ev _ 0 1636 [some (.ref 0), some (.ref 4), some (.ref 19), some (.int 0)] [.long (-9223372036854775808)] _ _
    refine z_e1 (pc1 := 1637) (L1 := [some (.ref 0), some (.ref 4), some (.ref 19), some (.int 0)]) (S1 := [.ref 19, .long (-9223372036854775808)]) zd0_1636 rfl rfl rfl ?_
    refine z_e1 (pc1 := 1638) (L1 := [some (.ref 0), some (.ref 4), some (.ref 19), some (.int 0)]) (S1 := [.ref 0, .ref 19, .long (-9223372036854775808)]) zd0_1637 rfl rfl rfl ?_
    refine z_e1 (pc1 := 1639) (L1 := [some (.ref 0), some (.ref 4), some (.ref 19), some (.int 0)]) (S1 := [.int 0, .ref 0, .ref 19, .long (-9223372036854775808)]) zd0_1638 rfl rfl rfl ?_
    refine z_e1 (pc1 := 1640) (L1 := [some (.ref 0), some (.ref 4), some (.ref 19), some (.int 0)]) (S1 := [.int 1, .int 0, .ref 0, .ref 19, .long (-9223372036854775808)]) zd0_1639 rfl rfl rfl ?_
    refine z_e1 (pc1 := 1641) (L1 := [some (.ref 0), some (.ref 4), some (.ref 19), some (.int 0)]) (S1 := [.int 1, .ref 0, .ref 19, .long (-9223372036854775808)]) zd0_1640 rfl rfl rfl ?_
    refine z_eial (y := x1) zd0_1641 h0 (by decide) g1 ?_
    refine z_e1 (pc1 := 1643) (L1 := [some (.ref 0), some (.ref 4), some (.ref 19), some (.int 0)]) (S1 := [.ref 0, .int x1, .ref 19, .long (-9223372036854775808)]) zd0_1642 rfl rfl rfl ?_
    refine z_e1 (pc1 := 1644) (L1 := [some (.ref 0), some (.ref 4), some (.ref 19), some (.int 0)]) (S1 := [.int 0, .ref 0, .int x1, .ref 19, .long (-9223372036854775808)]) zd0_1643 rfl rfl rfl ?_
    refine z_e1 (pc1 := 1645) (L1 := [some (.ref 0), some (.ref 4), some (.ref 19), some (.int 0)]) (S1 := [.int 2, .int 0, .ref 0, .int x1, .ref 19, .long (-9223372036854775808)]) zd0_1644 rfl rfl rfl ?_
    refine z_e1 (pc1 := 1646) (L1 := [some (.ref 0), some (.ref 4), some (.ref 19), some (.int 0)]) (S1 := [.int 2, .ref 0, .int x1, .ref 19, .long (-9223372036854775808)]) zd0_1645 rfl rfl rfl ?_
    refine z_eial (y := x2) zd0_1646 h0 (by decide) g2 ?_
    refine z_ecV (vs := [.ref 19, .int x1, .int x2]) (r := [.long (-9223372036854775808)]) (L2 := [some (.ref 19), some (.int x1), some (.int x2)]) zd0_1647 zcV0_162 (Or.inl rfl) rfl b19 (by decide) rfl rfl rfl (Nat.le_of_ble_eq_true rfl) zm289 (Nat.le_of_ble_eq_true rfl) rfl ?_
    refine z_e1 (pc1 := 1) (L1 := [some (.ref 19), some (.int x1), some (.int x2)]) (S1 := [.ref 19]) zd289_0 rfl rfl rfl ?_
    refine z_e1 (pc1 := 2) (L1 := [some (.ref 19), some (.int x1), some (.int x2)]) (S1 := [.int x1, .ref 19]) zd289_1 rfl rfl rfl ?_
    refine z_e1 (pc1 := 3) (L1 := [some (.ref 19), some (.int x1), some (.int x2)]) (S1 := [.int x2, .int x1, .ref 19]) zd289_2 rfl rfl rfl ?_
    refine z_ecV (vs := [.ref 19, .int x1, .int x2]) (r := []) (L2 := [some (.ref 19), some (.int x1), some (.int x2)]) zd289_3 zcV289_405 (Or.inl rfl) rfl b19 (by decide) rfl rfl rfl (Nat.le_of_ble_eq_true rfl) zm287 (Nat.le_of_ble_eq_true rfl) rfl ?_
    refine z_e1 (pc1 := 1) (L1 := [some (.ref 19), some (.int x1), some (.int x2)]) (S1 := [.int x1]) zd287_0 rfl rfl rfl ?_
    refine z_ecS (vs := [.int x1]) (r := []) (L2 := [some (.int x1)]) zd287_1 zcS287_237 (Or.inl rfl) (Nat.le_of_ble_eq_true rfl) rfl rfl (Nat.le_of_ble_eq_true rfl) zm225 (Nat.le_of_ble_eq_true rfl) rfl ?_
    refine z_e1 (pc1 := 1) (L1 := [some (.int x1)]) (S1 := [.int x1]) zd225_0 rfl rfl rfl ?_
    refine z_e1 (pc1 := 2) (L1 := [some (.int x1)]) (S1 := [.long ((x1 : Int32).toInt64)]) zd225_1 rfl rfl rfl ?_
    refine z_e1 (pc1 := 3) (L1 := [some (.int x1)]) (S1 := [.long 0, .long ((x1 : Int32).toInt64)]) zd225_2 rfl rfl rfl ?_
    refine z_eld2 zd225_3 zl225_318 ?_
    refine z_ecS (vs := [.long ((x1 : Int32).toInt64), .long 0, .long 5]) (r := []) (L2 := [some (.long ((x1 : Int32).toInt64)), none, some (.long 0), none, some (.long 5), none]) zd225_6 zcS225_116 (Or.inl rfl) (Nat.le_of_ble_eq_true rfl) rfl rfl (Nat.le_of_ble_eq_true rfl) zm189 (Nat.le_of_ble_eq_true rfl) rfl ?_
    refine z_e1 (pc1 := 1) (L1 := [some (.long ((x1 : Int32).toInt64)), none, some (.long 0), none, some (.long 5), none]) (S1 := [.long ((x1 : Int32).toInt64)]) zd189_0 rfl rfl rfl ?_
    refine z_e1 (pc1 := 2) (L1 := [some (.long ((x1 : Int32).toInt64)), none, some (.long 0), none, some (.long 5), none]) (S1 := [.long 0, .long ((x1 : Int32).toInt64)]) zd189_1 rfl rfl rfl ?_
    refine z_e1 (pc1 := 3) (L1 := [some (.long ((x1 : Int32).toInt64)), none, some (.long 0), none, some (.long 5), none]) (S1 := [.int (lg_cmp ((x1 : Int32).toInt64) 0)]) zd189_2 rfl rfl rfl ?_
    refine z_ez (t := 17) (t2 := 17) zd189_3 rfl (z_b_ltl1 (k := 0) (by decide) (show x1.toInt < 0 from by omega)) ?_
    refine z_e1 (pc1 := 18) (L1 := [some (.long ((x1 : Int32).toInt64)), none, some (.long 0), none, some (.long 5), none]) (S1 := [.int 0]) zd189_17 rfl rfl rfl ?_
    refine z_erz zd189_18 zr189 (by decide) ?_
    show z_ev _ 225 9 [some (.int x1)] [.int 0] _ _
    refine z_erz zd225_9 zr225 (by decide) ?_
    show z_ev _ 287 4 [some (.ref 19), some (.int x1), some (.int x2)] [.int 0] _ _
    refine z_ez (t := 9) (t2 := 7) zd287_4 rfl rfl ?_
    refine z_e1 (pc1 := 8) (L1 := [some (.ref 19), some (.int x1), some (.int x2)]) (S1 := [.int (-1)]) zd287_7 rfl rfl rfl ?_
    refine z_eri zd287_8 zr287 ?_
    show z_ev _ 289 6 [some (.ref 19), some (.int x1), some (.int x2)] [.int (-1)] _ _
    refine z_ez (t := 15) (t2 := 9) zd289_6 rfl rfl ?_
    refine z_eld2 zd289_9 zl289_414 ?_
    refine z_e1 (pc1 := 26) (L1 := [some (.ref 19), some (.int x1), some (.int x2)]) (S1 := [.long (-9223372036854775808)]) zd289_12 rfl rfl rfl ?_
    refine z_erl zd289_26 zr289 ?_
    show z_ev _ 0 1650 [some (.ref 0), some (.ref 4), some (.ref 19), some (.int 0)] [.long (-9223372036854775808), .long (-9223372036854775808)] _ _
    refine z_e1 (pc1 := 1651) (L1 := [some (.ref 0), some (.ref 4), some (.ref 19), some (.int 0)]) (S1 := [.int 0]) zd0_1650 rfl rfl rfl ?_
    refine z_ez (t := 1775) (t2 := 1775) zd0_1651 rfl rfl ?_
    refine z_e1 (pc1 := 1778) (L1 := [some (.ref 0), some (.ref 4), some (.ref 19), some (.int 6)]) (S1 := []) zd0_1775 rfl rfl rfl ?_
    refine z_e1 (pc1 := 18) (L1 := [some (.ref 0), some (.ref 4), some (.ref 19), some (.int 6)]) (S1 := []) zd0_1778 rfl rfl rfl ?_
    refine z_e1 (pc1 := 19) (L1 := [some (.ref 0), some (.ref 4), some (.ref 19), some (.int 6)]) (S1 := [.int 6]) zd0_18 rfl rfl rfl ?_
    refine z_e1 (pc1 := 20) (L1 := [some (.ref 0), some (.ref 4), some (.ref 19), some (.int 6)]) (S1 := [.ref 0, .int 6]) zd0_19 rfl rfl rfl ?_
    refine z_ealn (y := 6) zd0_20 h0 rfl ?_
    refine z_e1 (pc1 := 23) (L1 := [some (.ref 0), some (.ref 4), some (.ref 19), some (.int 6)]) (S1 := [.int 6, .int 6, .int 6]) zd0_21 rfl rfl rfl ?_
    refine z_e1 (pc1 := 24) (L1 := [some (.ref 0), some (.ref 4), some (.ref 19), some (.int 6)]) (S1 := [.int 0, .int 6]) zd0_23 rfl rfl rfl ?_
    refine z_ej (t := 1781) (t2 := 1781) zd0_24 rfl rfl ?_
    refine z_e1 (pc1 := 1782) (L1 := [some (.ref 0), some (.ref 4), some (.ref 19), some (.int 6)]) (S1 := [.int 1]) zd0_1781 rfl rfl rfl ?_
    refine z_erz zd0_1782 zr0 (by decide) ?_
    exact z_K1i hN hS (by decide) (by decide)
  · refine z_ez (t := 14) (t2 := 4) zd58_1 rfl (z_b_ltx0 (k := 0) (by decide) e1) ?_
    refine z_e1 (pc1 := 5) (L1 := [some (.int x1)]) (S1 := [.int x1]) zd58_4 rfl rfl rfl ?_
    refine z_e1 (pc1 := 7) (L1 := [some (.int x1)]) (S1 := [.int 6, .int x1]) zd58_5 rfl rfl rfl ?_
    by_cases e2 : x1.toInt < 6
    · refine z_ej (t := 14) (t2 := 10) zd58_7 rfl (z_b_gex1 (k := 6) (by decide) e2) ?_
      refine z_e1 (pc1 := 11) (L1 := [some (.int x1)]) (S1 := [.int 1]) zd58_10 rfl rfl rfl ?_
      refine z_e1 (pc1 := 15) (L1 := [some (.int x1)]) (S1 := [.int 1]) zd58_11 rfl rfl rfl ?_
      refine z_erz zd58_15 zr58 (by decide) ?_
      show z_ev _ 178 4 [some (.ref 4), some (.int x1), some (.int x2)] [.int 1] _ _
      refine z_ez (t := 9) (t2 := 9) zd178_4 rfl rfl ?_
      refine z_e1 (pc1 := 10) (L1 := [some (.ref 4), some (.int x1), some (.int x2)]) (S1 := [.ref 4]) zd178_9 rfl rfl rfl ?_
      refine z_egf (fs := [.ref 5, .ref 10, .ref 11, .int 0, .ref 12, .int 0, .ref 13, .ref 14, .ref 15, .ref 16, .ref 17, .ref 18, .null]) (v := .ref 14) zd178_10 zf178_35 b4 (by decide) (by decide) rfl ?_
      refine z_e1 (pc1 := 14) (L1 := [some (.ref 4), some (.int x1), some (.int x2)]) (S1 := [.int x1, .ref 14]) zd178_13 rfl rfl rfl ?_
      refine z_eial (y := (-1)) zd178_14 b14 (z_inr (show 0 ≤ x1.toInt by omega) (show x1.toInt < (6 : Nat) by omega)) (c14 x1.toNatClampNeg (z_cll (show x1.toInt < (6 : Nat) by omega) (by decide))) ?_
      refine z_e1 (pc1 := 16) (L1 := [some (.ref 4), some (.int x1), some (.int x2)]) (S1 := [.int (-1), .int (-1)]) zd178_15 rfl rfl rfl ?_
      refine z_ej (t := 22) (t2 := 19) zd178_16 rfl rfl ?_
      refine z_e1 (pc1 := 21) (L1 := [some (.ref 4), some (.int x1), some (.int x2)]) (S1 := [.int (-11)]) zd178_19 rfl rfl rfl ?_
      refine z_eri zd178_21 zr178 ?_
      show z_ev _ 180 6 [some (.ref 4), some (.int x1), some (.int x2)] [.int (-11)] _ _
      refine z_ez (t := 13) (t2 := 9) zd180_6 rfl rfl ?_
      refine z_eld2 zd180_9 zl180_322 ?_
      refine z_erl zd180_12 zr180 ?_
      show z_ev _ 0 1636 [some (.ref 0), some (.ref 4), some (.ref 19), some (.int 0)] [.long (-9223372036854775808)] _ _
      refine z_e1 (pc1 := 1637) (L1 := [some (.ref 0), some (.ref 4), some (.ref 19), some (.int 0)]) (S1 := [.ref 19, .long (-9223372036854775808)]) zd0_1636 rfl rfl rfl ?_
      refine z_e1 (pc1 := 1638) (L1 := [some (.ref 0), some (.ref 4), some (.ref 19), some (.int 0)]) (S1 := [.ref 0, .ref 19, .long (-9223372036854775808)]) zd0_1637 rfl rfl rfl ?_
      refine z_e1 (pc1 := 1639) (L1 := [some (.ref 0), some (.ref 4), some (.ref 19), some (.int 0)]) (S1 := [.int 0, .ref 0, .ref 19, .long (-9223372036854775808)]) zd0_1638 rfl rfl rfl ?_
      refine z_e1 (pc1 := 1640) (L1 := [some (.ref 0), some (.ref 4), some (.ref 19), some (.int 0)]) (S1 := [.int 1, .int 0, .ref 0, .ref 19, .long (-9223372036854775808)]) zd0_1639 rfl rfl rfl ?_
      refine z_e1 (pc1 := 1641) (L1 := [some (.ref 0), some (.ref 4), some (.ref 19), some (.int 0)]) (S1 := [.int 1, .ref 0, .ref 19, .long (-9223372036854775808)]) zd0_1640 rfl rfl rfl ?_
      refine z_eial (y := x1) zd0_1641 h0 (by decide) g1 ?_
      refine z_e1 (pc1 := 1643) (L1 := [some (.ref 0), some (.ref 4), some (.ref 19), some (.int 0)]) (S1 := [.ref 0, .int x1, .ref 19, .long (-9223372036854775808)]) zd0_1642 rfl rfl rfl ?_
      refine z_e1 (pc1 := 1644) (L1 := [some (.ref 0), some (.ref 4), some (.ref 19), some (.int 0)]) (S1 := [.int 0, .ref 0, .int x1, .ref 19, .long (-9223372036854775808)]) zd0_1643 rfl rfl rfl ?_
      refine z_e1 (pc1 := 1645) (L1 := [some (.ref 0), some (.ref 4), some (.ref 19), some (.int 0)]) (S1 := [.int 2, .int 0, .ref 0, .int x1, .ref 19, .long (-9223372036854775808)]) zd0_1644 rfl rfl rfl ?_
      refine z_e1 (pc1 := 1646) (L1 := [some (.ref 0), some (.ref 4), some (.ref 19), some (.int 0)]) (S1 := [.int 2, .ref 0, .int x1, .ref 19, .long (-9223372036854775808)]) zd0_1645 rfl rfl rfl ?_
      refine z_eial (y := x2) zd0_1646 h0 (by decide) g2 ?_
      refine z_ecV (vs := [.ref 19, .int x1, .int x2]) (r := [.long (-9223372036854775808)]) (L2 := [some (.ref 19), some (.int x1), some (.int x2)]) zd0_1647 zcV0_162 (Or.inl rfl) rfl b19 (by decide) rfl rfl rfl (Nat.le_of_ble_eq_true rfl) zm289 (Nat.le_of_ble_eq_true rfl) rfl ?_
      refine z_e1 (pc1 := 1) (L1 := [some (.ref 19), some (.int x1), some (.int x2)]) (S1 := [.ref 19]) zd289_0 rfl rfl rfl ?_
      refine z_e1 (pc1 := 2) (L1 := [some (.ref 19), some (.int x1), some (.int x2)]) (S1 := [.int x1, .ref 19]) zd289_1 rfl rfl rfl ?_
      refine z_e1 (pc1 := 3) (L1 := [some (.ref 19), some (.int x1), some (.int x2)]) (S1 := [.int x2, .int x1, .ref 19]) zd289_2 rfl rfl rfl ?_
      refine z_ecV (vs := [.ref 19, .int x1, .int x2]) (r := []) (L2 := [some (.ref 19), some (.int x1), some (.int x2)]) zd289_3 zcV289_405 (Or.inl rfl) rfl b19 (by decide) rfl rfl rfl (Nat.le_of_ble_eq_true rfl) zm287 (Nat.le_of_ble_eq_true rfl) rfl ?_
      refine z_e1 (pc1 := 1) (L1 := [some (.ref 19), some (.int x1), some (.int x2)]) (S1 := [.int x1]) zd287_0 rfl rfl rfl ?_
      refine z_ecS (vs := [.int x1]) (r := []) (L2 := [some (.int x1)]) zd287_1 zcS287_237 (Or.inl rfl) (Nat.le_of_ble_eq_true rfl) rfl rfl (Nat.le_of_ble_eq_true rfl) zm225 (Nat.le_of_ble_eq_true rfl) rfl ?_
      refine z_e1 (pc1 := 1) (L1 := [some (.int x1)]) (S1 := [.int x1]) zd225_0 rfl rfl rfl ?_
      refine z_e1 (pc1 := 2) (L1 := [some (.int x1)]) (S1 := [.long ((x1 : Int32).toInt64)]) zd225_1 rfl rfl rfl ?_
      refine z_e1 (pc1 := 3) (L1 := [some (.int x1)]) (S1 := [.long 0, .long ((x1 : Int32).toInt64)]) zd225_2 rfl rfl rfl ?_
      refine z_eld2 zd225_3 zl225_318 ?_
      refine z_ecS (vs := [.long ((x1 : Int32).toInt64), .long 0, .long 5]) (r := []) (L2 := [some (.long ((x1 : Int32).toInt64)), none, some (.long 0), none, some (.long 5), none]) zd225_6 zcS225_116 (Or.inl rfl) (Nat.le_of_ble_eq_true rfl) rfl rfl (Nat.le_of_ble_eq_true rfl) zm189 (Nat.le_of_ble_eq_true rfl) rfl ?_
      refine z_e1 (pc1 := 1) (L1 := [some (.long ((x1 : Int32).toInt64)), none, some (.long 0), none, some (.long 5), none]) (S1 := [.long ((x1 : Int32).toInt64)]) zd189_0 rfl rfl rfl ?_
      refine z_e1 (pc1 := 2) (L1 := [some (.long ((x1 : Int32).toInt64)), none, some (.long 0), none, some (.long 5), none]) (S1 := [.long 0, .long ((x1 : Int32).toInt64)]) zd189_1 rfl rfl rfl ?_
      refine z_e1 (pc1 := 3) (L1 := [some (.long ((x1 : Int32).toInt64)), none, some (.long 0), none, some (.long 5), none]) (S1 := [.int (lg_cmp ((x1 : Int32).toInt64) 0)]) zd189_2 rfl rfl rfl ?_
      refine z_ez (t := 17) (t2 := 6) zd189_3 rfl (z_b_ltl0 (k := 0) (by decide) (show ¬ x1.toInt < 0 from by omega)) ?_
      refine z_e1 (pc1 := 7) (L1 := [some (.long ((x1 : Int32).toInt64)), none, some (.long 0), none, some (.long 5), none]) (S1 := [.long ((x1 : Int32).toInt64)]) zd189_6 rfl rfl rfl ?_
      refine z_e1 (pc1 := 9) (L1 := [some (.long ((x1 : Int32).toInt64)), none, some (.long 0), none, some (.long 5), none]) (S1 := [.long 5, .long ((x1 : Int32).toInt64)]) zd189_7 rfl rfl rfl ?_
      refine z_e1 (pc1 := 10) (L1 := [some (.long ((x1 : Int32).toInt64)), none, some (.long 0), none, some (.long 5), none]) (S1 := [.int (lg_cmp ((x1 : Int32).toInt64) 5)]) zd189_9 rfl rfl rfl ?_
      refine z_ez (t := 17) (t2 := 13) zd189_10 rfl (z_b_gtl0 (k := 5) (by decide) (show ¬ 5 < x1.toInt from by omega)) ?_
      refine z_e1 (pc1 := 14) (L1 := [some (.long ((x1 : Int32).toInt64)), none, some (.long 0), none, some (.long 5), none]) (S1 := [.int 1]) zd189_13 rfl rfl rfl ?_
      refine z_e1 (pc1 := 18) (L1 := [some (.long ((x1 : Int32).toInt64)), none, some (.long 0), none, some (.long 5), none]) (S1 := [.int 1]) zd189_14 rfl rfl rfl ?_
      refine z_erz zd189_18 zr189 (by decide) ?_
      show z_ev _ 225 9 [some (.int x1)] [.int 1] _ _
      refine z_erz zd225_9 zr225 (by decide) ?_
      show z_ev _ 287 4 [some (.ref 19), some (.int x1), some (.int x2)] [.int 1] _ _
      refine z_ez (t := 9) (t2 := 9) zd287_4 rfl rfl ?_
      refine z_e1 (pc1 := 10) (L1 := [some (.ref 19), some (.int x1), some (.int x2)]) (S1 := [.ref 19]) zd287_9 rfl rfl rfl ?_
      refine z_egf (fs := [.ref 20, .int 0, .ref 21, .ref 22, .ref 23, .ref 24, .ref 25, .ref 26, .ref 27, .ref 28, .ref 29, .ref 30, .ref 31, .int 0, .ref 32, .ref 33, .ref 34, .ref 35, .ref 36, .ref 37, .ref 38, .int 0, .int 0, .int 0, .int 0, .int 0, .int 0, .int 0, .int 0, .int 0, .int 0, .ref 39, .ref 40, .ref 41, .int 0, .int 0, .ref 42, .ref 43, .ref 44, .ref 45, .ref 46, .int 0, .ref 47, .int 0, .int 0, .int 0, .ref 48, .int 0, .int 0, .ref 49, .ref 50, .ref 51, .ref 52]) (v := .ref 49) zd287_10 zf287_97 b19 (by decide) (by decide) rfl ?_
      refine z_e1 (pc1 := 14) (L1 := [some (.ref 19), some (.int x1), some (.int x2)]) (S1 := [.int x1, .ref 49]) zd287_13 rfl rfl rfl ?_
      refine z_eial (y := (-1)) zd287_14 b49 (z_inr (show 0 ≤ x1.toInt by omega) (show x1.toInt < (6 : Nat) by omega)) (c49 x1.toNatClampNeg (z_cll (show x1.toInt < (6 : Nat) by omega) (by decide))) ?_
      refine z_ez (t := 21) (t2 := 18) zd287_15 rfl rfl ?_
      refine z_e1 (pc1 := 20) (L1 := [some (.ref 19), some (.int x1), some (.int x2)]) (S1 := [.int (-11)]) zd287_18 rfl rfl rfl ?_
      refine z_eri zd287_20 zr287 ?_
      show z_ev _ 289 6 [some (.ref 19), some (.int x1), some (.int x2)] [.int (-11)] _ _
      refine z_ez (t := 15) (t2 := 9) zd289_6 rfl rfl ?_
      refine z_eld2 zd289_9 zl289_414 ?_
      refine z_e1 (pc1 := 26) (L1 := [some (.ref 19), some (.int x1), some (.int x2)]) (S1 := [.long (-9223372036854775808)]) zd289_12 rfl rfl rfl ?_
      refine z_erl zd289_26 zr289 ?_
      show z_ev _ 0 1650 [some (.ref 0), some (.ref 4), some (.ref 19), some (.int 0)] [.long (-9223372036854775808), .long (-9223372036854775808)] _ _
      refine z_e1 (pc1 := 1651) (L1 := [some (.ref 0), some (.ref 4), some (.ref 19), some (.int 0)]) (S1 := [.int 0]) zd0_1650 rfl rfl rfl ?_
      refine z_ez (t := 1775) (t2 := 1775) zd0_1651 rfl rfl ?_
      refine z_e1 (pc1 := 1778) (L1 := [some (.ref 0), some (.ref 4), some (.ref 19), some (.int 6)]) (S1 := []) zd0_1775 rfl rfl rfl ?_
      refine z_e1 (pc1 := 18) (L1 := [some (.ref 0), some (.ref 4), some (.ref 19), some (.int 6)]) (S1 := []) zd0_1778 rfl rfl rfl ?_
      refine z_e1 (pc1 := 19) (L1 := [some (.ref 0), some (.ref 4), some (.ref 19), some (.int 6)]) (S1 := [.int 6]) zd0_18 rfl rfl rfl ?_
      refine z_e1 (pc1 := 20) (L1 := [some (.ref 0), some (.ref 4), some (.ref 19), some (.int 6)]) (S1 := [.ref 0, .int 6]) zd0_19 rfl rfl rfl ?_
      refine z_ealn (y := 6) zd0_20 h0 rfl ?_
      refine z_e1 (pc1 := 23) (L1 := [some (.ref 0), some (.ref 4), some (.ref 19), some (.int 6)]) (S1 := [.int 6, .int 6, .int 6]) zd0_21 rfl rfl rfl ?_
      refine z_e1 (pc1 := 24) (L1 := [some (.ref 0), some (.ref 4), some (.ref 19), some (.int 6)]) (S1 := [.int 0, .int 6]) zd0_23 rfl rfl rfl ?_
      refine z_ej (t := 1781) (t2 := 1781) zd0_24 rfl rfl ?_
      refine z_e1 (pc1 := 1782) (L1 := [some (.ref 0), some (.ref 4), some (.ref 19), some (.int 6)]) (S1 := [.int 1]) zd0_1781 rfl rfl rfl ?_
      refine z_erz zd0_1782 zr0 (by decide) ?_
      exact z_K1i hN hS (by decide) (by decide)
    · refine z_ej (t := 14) (t2 := 14) zd58_7 rfl (z_b_gex0 (k := 6) (by decide) e2) ?_
      refine z_e1 (pc1 := 15) (L1 := [some (.int x1)]) (S1 := [.int 0]) zd58_14 rfl rfl rfl ?_
      refine z_erz zd58_15 zr58 (by decide) ?_
      show z_ev _ 178 4 [some (.ref 4), some (.int x1), some (.int x2)] [.int 0] _ _
      refine z_ez (t := 9) (t2 := 7) zd178_4 rfl rfl ?_
      refine z_e1 (pc1 := 8) (L1 := [some (.ref 4), some (.int x1), some (.int x2)]) (S1 := [.int (-1)]) zd178_7 rfl rfl rfl ?_
      refine z_eri zd178_8 zr178 ?_
      show z_ev _ 180 6 [some (.ref 4), some (.int x1), some (.int x2)] [.int (-1)] _ _
      refine z_ez (t := 13) (t2 := 9) zd180_6 rfl rfl ?_
      refine z_eld2 zd180_9 zl180_322 ?_
      refine z_erl zd180_12 zr180 ?_
      show z_ev _ 0 1636 [some (.ref 0), some (.ref 4), some (.ref 19), some (.int 0)] [.long (-9223372036854775808)] _ _
      refine z_e1 (pc1 := 1637) (L1 := [some (.ref 0), some (.ref 4), some (.ref 19), some (.int 0)]) (S1 := [.ref 19, .long (-9223372036854775808)]) zd0_1636 rfl rfl rfl ?_
      refine z_e1 (pc1 := 1638) (L1 := [some (.ref 0), some (.ref 4), some (.ref 19), some (.int 0)]) (S1 := [.ref 0, .ref 19, .long (-9223372036854775808)]) zd0_1637 rfl rfl rfl ?_
      refine z_e1 (pc1 := 1639) (L1 := [some (.ref 0), some (.ref 4), some (.ref 19), some (.int 0)]) (S1 := [.int 0, .ref 0, .ref 19, .long (-9223372036854775808)]) zd0_1638 rfl rfl rfl ?_
      refine z_e1 (pc1 := 1640) (L1 := [some (.ref 0), some (.ref 4), some (.ref 19), some (.int 0)]) (S1 := [.int 1, .int 0, .ref 0, .ref 19, .long (-9223372036854775808)]) zd0_1639 rfl rfl rfl ?_
      refine z_e1 (pc1 := 1641) (L1 := [some (.ref 0), some (.ref 4), some (.ref 19), some (.int 0)]) (S1 := [.int 1, .ref 0, .ref 19, .long (-9223372036854775808)]) zd0_1640 rfl rfl rfl ?_
      refine z_eial (y := x1) zd0_1641 h0 (by decide) g1 ?_
      refine z_e1 (pc1 := 1643) (L1 := [some (.ref 0), some (.ref 4), some (.ref 19), some (.int 0)]) (S1 := [.ref 0, .int x1, .ref 19, .long (-9223372036854775808)]) zd0_1642 rfl rfl rfl ?_
      refine z_e1 (pc1 := 1644) (L1 := [some (.ref 0), some (.ref 4), some (.ref 19), some (.int 0)]) (S1 := [.int 0, .ref 0, .int x1, .ref 19, .long (-9223372036854775808)]) zd0_1643 rfl rfl rfl ?_
      refine z_e1 (pc1 := 1645) (L1 := [some (.ref 0), some (.ref 4), some (.ref 19), some (.int 0)]) (S1 := [.int 2, .int 0, .ref 0, .int x1, .ref 19, .long (-9223372036854775808)]) zd0_1644 rfl rfl rfl ?_
      refine z_e1 (pc1 := 1646) (L1 := [some (.ref 0), some (.ref 4), some (.ref 19), some (.int 0)]) (S1 := [.int 2, .ref 0, .int x1, .ref 19, .long (-9223372036854775808)]) zd0_1645 rfl rfl rfl ?_
      refine z_eial (y := x2) zd0_1646 h0 (by decide) g2 ?_
      refine z_ecV (vs := [.ref 19, .int x1, .int x2]) (r := [.long (-9223372036854775808)]) (L2 := [some (.ref 19), some (.int x1), some (.int x2)]) zd0_1647 zcV0_162 (Or.inl rfl) rfl b19 (by decide) rfl rfl rfl (Nat.le_of_ble_eq_true rfl) zm289 (Nat.le_of_ble_eq_true rfl) rfl ?_
      refine z_e1 (pc1 := 1) (L1 := [some (.ref 19), some (.int x1), some (.int x2)]) (S1 := [.ref 19]) zd289_0 rfl rfl rfl ?_
      refine z_e1 (pc1 := 2) (L1 := [some (.ref 19), some (.int x1), some (.int x2)]) (S1 := [.int x1, .ref 19]) zd289_1 rfl rfl rfl ?_
      refine z_e1 (pc1 := 3) (L1 := [some (.ref 19), some (.int x1), some (.int x2)]) (S1 := [.int x2, .int x1, .ref 19]) zd289_2 rfl rfl rfl ?_
      refine z_ecV (vs := [.ref 19, .int x1, .int x2]) (r := []) (L2 := [some (.ref 19), some (.int x1), some (.int x2)]) zd289_3 zcV289_405 (Or.inl rfl) rfl b19 (by decide) rfl rfl rfl (Nat.le_of_ble_eq_true rfl) zm287 (Nat.le_of_ble_eq_true rfl) rfl ?_
      refine z_e1 (pc1 := 1) (L1 := [some (.ref 19), some (.int x1), some (.int x2)]) (S1 := [.int x1]) zd287_0 rfl rfl rfl ?_
      refine z_ecS (vs := [.int x1]) (r := []) (L2 := [some (.int x1)]) zd287_1 zcS287_237 (Or.inl rfl) (Nat.le_of_ble_eq_true rfl) rfl rfl (Nat.le_of_ble_eq_true rfl) zm225 (Nat.le_of_ble_eq_true rfl) rfl ?_
      refine z_e1 (pc1 := 1) (L1 := [some (.int x1)]) (S1 := [.int x1]) zd225_0 rfl rfl rfl ?_
      refine z_e1 (pc1 := 2) (L1 := [some (.int x1)]) (S1 := [.long ((x1 : Int32).toInt64)]) zd225_1 rfl rfl rfl ?_
      refine z_e1 (pc1 := 3) (L1 := [some (.int x1)]) (S1 := [.long 0, .long ((x1 : Int32).toInt64)]) zd225_2 rfl rfl rfl ?_
      refine z_eld2 zd225_3 zl225_318 ?_
      refine z_ecS (vs := [.long ((x1 : Int32).toInt64), .long 0, .long 5]) (r := []) (L2 := [some (.long ((x1 : Int32).toInt64)), none, some (.long 0), none, some (.long 5), none]) zd225_6 zcS225_116 (Or.inl rfl) (Nat.le_of_ble_eq_true rfl) rfl rfl (Nat.le_of_ble_eq_true rfl) zm189 (Nat.le_of_ble_eq_true rfl) rfl ?_
      refine z_e1 (pc1 := 1) (L1 := [some (.long ((x1 : Int32).toInt64)), none, some (.long 0), none, some (.long 5), none]) (S1 := [.long ((x1 : Int32).toInt64)]) zd189_0 rfl rfl rfl ?_
      refine z_e1 (pc1 := 2) (L1 := [some (.long ((x1 : Int32).toInt64)), none, some (.long 0), none, some (.long 5), none]) (S1 := [.long 0, .long ((x1 : Int32).toInt64)]) zd189_1 rfl rfl rfl ?_
      refine z_e1 (pc1 := 3) (L1 := [some (.long ((x1 : Int32).toInt64)), none, some (.long 0), none, some (.long 5), none]) (S1 := [.int (lg_cmp ((x1 : Int32).toInt64) 0)]) zd189_2 rfl rfl rfl ?_
      refine z_ez (t := 17) (t2 := 6) zd189_3 rfl (z_b_ltl0 (k := 0) (by decide) (show ¬ x1.toInt < 0 from by omega)) ?_
      refine z_e1 (pc1 := 7) (L1 := [some (.long ((x1 : Int32).toInt64)), none, some (.long 0), none, some (.long 5), none]) (S1 := [.long ((x1 : Int32).toInt64)]) zd189_6 rfl rfl rfl ?_
      refine z_e1 (pc1 := 9) (L1 := [some (.long ((x1 : Int32).toInt64)), none, some (.long 0), none, some (.long 5), none]) (S1 := [.long 5, .long ((x1 : Int32).toInt64)]) zd189_7 rfl rfl rfl ?_
      refine z_e1 (pc1 := 10) (L1 := [some (.long ((x1 : Int32).toInt64)), none, some (.long 0), none, some (.long 5), none]) (S1 := [.int (lg_cmp ((x1 : Int32).toInt64) 5)]) zd189_9 rfl rfl rfl ?_
      refine z_ez (t := 17) (t2 := 17) zd189_10 rfl (z_b_gtl1 (k := 5) (by decide) (show 5 < x1.toInt from by omega)) ?_
      refine z_e1 (pc1 := 18) (L1 := [some (.long ((x1 : Int32).toInt64)), none, some (.long 0), none, some (.long 5), none]) (S1 := [.int 0]) zd189_17 rfl rfl rfl ?_
      refine z_erz zd189_18 zr189 (by decide) ?_
      show z_ev _ 225 9 [some (.int x1)] [.int 0] _ _
      refine z_erz zd225_9 zr225 (by decide) ?_
      show z_ev _ 287 4 [some (.ref 19), some (.int x1), some (.int x2)] [.int 0] _ _
      refine z_ez (t := 9) (t2 := 7) zd287_4 rfl rfl ?_
      refine z_e1 (pc1 := 8) (L1 := [some (.ref 19), some (.int x1), some (.int x2)]) (S1 := [.int (-1)]) zd287_7 rfl rfl rfl ?_
      refine z_eri zd287_8 zr287 ?_
      show z_ev _ 289 6 [some (.ref 19), some (.int x1), some (.int x2)] [.int (-1)] _ _
      refine z_ez (t := 15) (t2 := 9) zd289_6 rfl rfl ?_
      refine z_eld2 zd289_9 zl289_414 ?_
      refine z_e1 (pc1 := 26) (L1 := [some (.ref 19), some (.int x1), some (.int x2)]) (S1 := [.long (-9223372036854775808)]) zd289_12 rfl rfl rfl ?_
      refine z_erl zd289_26 zr289 ?_
      show z_ev _ 0 1650 [some (.ref 0), some (.ref 4), some (.ref 19), some (.int 0)] [.long (-9223372036854775808), .long (-9223372036854775808)] _ _
      refine z_e1 (pc1 := 1651) (L1 := [some (.ref 0), some (.ref 4), some (.ref 19), some (.int 0)]) (S1 := [.int 0]) zd0_1650 rfl rfl rfl ?_
      refine z_ez (t := 1775) (t2 := 1775) zd0_1651 rfl rfl ?_
      refine z_e1 (pc1 := 1778) (L1 := [some (.ref 0), some (.ref 4), some (.ref 19), some (.int 6)]) (S1 := []) zd0_1775 rfl rfl rfl ?_
      refine z_e1 (pc1 := 18) (L1 := [some (.ref 0), some (.ref 4), some (.ref 19), some (.int 6)]) (S1 := []) zd0_1778 rfl rfl rfl ?_
      refine z_e1 (pc1 := 19) (L1 := [some (.ref 0), some (.ref 4), some (.ref 19), some (.int 6)]) (S1 := [.int 6]) zd0_18 rfl rfl rfl ?_
      refine z_e1 (pc1 := 20) (L1 := [some (.ref 0), some (.ref 4), some (.ref 19), some (.int 6)]) (S1 := [.ref 0, .int 6]) zd0_19 rfl rfl rfl ?_
      refine z_ealn (y := 6) zd0_20 h0 rfl ?_
      refine z_e1 (pc1 := 23) (L1 := [some (.ref 0), some (.ref 4), some (.ref 19), some (.int 6)]) (S1 := [.int 6, .int 6, .int 6]) zd0_21 rfl rfl rfl ?_
      refine z_e1 (pc1 := 24) (L1 := [some (.ref 0), some (.ref 4), some (.ref 19), some (.int 6)]) (S1 := [.int 0, .int 6]) zd0_23 rfl rfl rfl ?_
      refine z_ej (t := 1781) (t2 := 1781) zd0_24 rfl rfl ?_
      refine z_e1 (pc1 := 1782) (L1 := [some (.ref 0), some (.ref 4), some (.ref 19), some (.int 6)]) (S1 := [.int 1]) zd0_1781 rfl rfl rfl ?_
      refine z_erz zd0_1782 zr0 (by decide) ?_
      exact z_K1i hN hS (by decide) (by decide)
theorem z_C35 {M : zH} {xs : Nat → Int32} {x1 x2 x3 x4 x5 : Int32} (h0 : M[0]? = some (.inl (0, 6, .inl xs))) (hN : M.length = 53) (hS : z_sz M ≤ 50000) (hB : z_fr M 4 53) (g1 : xs 1 = x1) (g2 : xs 2 = x2) (g3 : xs 3 = x3) (g4 : xs 4 = x4) (g5 : xs 5 = x5) : z_ev 2047 0 1656 [some (.ref 0), some (.ref 4), some (.ref 19), some (.int 0)] [] M z_K1 := by
  have b4 := z_qO (hB 4 (by decide) (by decide))
  obtain ⟨f14, b14, c14⟩ := z_qI (hB 14 (by decide) (by decide))
  have b19 := z_qO (hB 19 (by decide) (by decide))
  obtain ⟨f49, b49, c49⟩ := z_qI (hB 49 (by decide) (by decide))
  refine z_e1 (pc1 := 1657) (L1 := [some (.ref 0), some (.ref 4), some (.ref 19), some (.int 0)]) (S1 := [.ref 4]) zd0_1656 rfl rfl rfl ?_
  refine z_e1 (pc1 := 1658) (L1 := [some (.ref 0), some (.ref 4), some (.ref 19), some (.int 0)]) (S1 := [.ref 0, .ref 4]) zd0_1657 rfl rfl rfl ?_
  refine z_e1 (pc1 := 1659) (L1 := [some (.ref 0), some (.ref 4), some (.ref 19), some (.int 0)]) (S1 := [.int 0, .ref 0, .ref 4]) zd0_1658 rfl rfl rfl ?_
  refine z_e1 (pc1 := 1660) (L1 := [some (.ref 0), some (.ref 4), some (.ref 19), some (.int 0)]) (S1 := [.int 1, .int 0, .ref 0, .ref 4]) zd0_1659 rfl rfl rfl ?_
  refine z_e1 (pc1 := 1661) (L1 := [some (.ref 0), some (.ref 4), some (.ref 19), some (.int 0)]) (S1 := [.int 1, .ref 0, .ref 4]) zd0_1660 rfl rfl rfl ?_
  refine z_eial (y := x1) zd0_1661 h0 (by decide) g1 ?_
  refine z_e1 (pc1 := 1663) (L1 := [some (.ref 0), some (.ref 4), some (.ref 19), some (.int 0)]) (S1 := [.ref 0, .int x1, .ref 4]) zd0_1662 rfl rfl rfl ?_
  refine z_e1 (pc1 := 1664) (L1 := [some (.ref 0), some (.ref 4), some (.ref 19), some (.int 0)]) (S1 := [.int 0, .ref 0, .int x1, .ref 4]) zd0_1663 rfl rfl rfl ?_
  refine z_e1 (pc1 := 1665) (L1 := [some (.ref 0), some (.ref 4), some (.ref 19), some (.int 0)]) (S1 := [.int 2, .int 0, .ref 0, .int x1, .ref 4]) zd0_1664 rfl rfl rfl ?_
  refine z_e1 (pc1 := 1666) (L1 := [some (.ref 0), some (.ref 4), some (.ref 19), some (.int 0)]) (S1 := [.int 2, .ref 0, .int x1, .ref 4]) zd0_1665 rfl rfl rfl ?_
  refine z_eial (y := x2) zd0_1666 h0 (by decide) g2 ?_
  refine z_e1 (pc1 := 1668) (L1 := [some (.ref 0), some (.ref 4), some (.ref 19), some (.int 0)]) (S1 := [.ref 0, .int x2, .int x1, .ref 4]) zd0_1667 rfl rfl rfl ?_
  refine z_e1 (pc1 := 1669) (L1 := [some (.ref 0), some (.ref 4), some (.ref 19), some (.int 0)]) (S1 := [.int 0, .ref 0, .int x2, .int x1, .ref 4]) zd0_1668 rfl rfl rfl ?_
  refine z_e1 (pc1 := 1670) (L1 := [some (.ref 0), some (.ref 4), some (.ref 19), some (.int 0)]) (S1 := [.int 3, .int 0, .ref 0, .int x2, .int x1, .ref 4]) zd0_1669 rfl rfl rfl ?_
  refine z_e1 (pc1 := 1671) (L1 := [some (.ref 0), some (.ref 4), some (.ref 19), some (.int 0)]) (S1 := [.int 3, .ref 0, .int x2, .int x1, .ref 4]) zd0_1670 rfl rfl rfl ?_
  refine z_eial (y := x3) zd0_1671 h0 (by decide) g3 ?_
  refine z_e1 (pc1 := 1673) (L1 := [some (.ref 0), some (.ref 4), some (.ref 19), some (.int 0)]) (S1 := [.ref 0, .int x3, .int x2, .int x1, .ref 4]) zd0_1672 rfl rfl rfl ?_
  refine z_e1 (pc1 := 1674) (L1 := [some (.ref 0), some (.ref 4), some (.ref 19), some (.int 0)]) (S1 := [.int 0, .ref 0, .int x3, .int x2, .int x1, .ref 4]) zd0_1673 rfl rfl rfl ?_
  refine z_e1 (pc1 := 1675) (L1 := [some (.ref 0), some (.ref 4), some (.ref 19), some (.int 0)]) (S1 := [.int 4, .int 0, .ref 0, .int x3, .int x2, .int x1, .ref 4]) zd0_1674 rfl rfl rfl ?_
  refine z_e1 (pc1 := 1676) (L1 := [some (.ref 0), some (.ref 4), some (.ref 19), some (.int 0)]) (S1 := [.int 4, .ref 0, .int x3, .int x2, .int x1, .ref 4]) zd0_1675 rfl rfl rfl ?_
  refine z_eial (y := x4) zd0_1676 h0 (by decide) g4 ?_
  refine z_e1 (pc1 := 1678) (L1 := [some (.ref 0), some (.ref 4), some (.ref 19), some (.int 0)]) (S1 := [.ref 0, .int x4, .int x3, .int x2, .int x1, .ref 4]) zd0_1677 rfl rfl rfl ?_
  refine z_e1 (pc1 := 1679) (L1 := [some (.ref 0), some (.ref 4), some (.ref 19), some (.int 0)]) (S1 := [.int 0, .ref 0, .int x4, .int x3, .int x2, .int x1, .ref 4]) zd0_1678 rfl rfl rfl ?_
  refine z_e1 (pc1 := 1680) (L1 := [some (.ref 0), some (.ref 4), some (.ref 19), some (.int 0)]) (S1 := [.int 5, .int 0, .ref 0, .int x4, .int x3, .int x2, .int x1, .ref 4]) zd0_1679 rfl rfl rfl ?_
  refine z_e1 (pc1 := 1681) (L1 := [some (.ref 0), some (.ref 4), some (.ref 19), some (.int 0)]) (S1 := [.int 5, .ref 0, .int x4, .int x3, .int x2, .int x1, .ref 4]) zd0_1680 rfl rfl rfl ?_
  refine z_eial (y := x5) zd0_1681 h0 (by decide) g5 ?_
  refine z_ecV (vs := [.ref 4, .int x1, .int x2, .int x3, .int x4, .int x5]) (r := []) (L2 := [some (.ref 4), some (.int x1), some (.int x2), some (.int x3), some (.int x4), some (.int x5)]) zd0_1682 zcV0_163 (Or.inl rfl) rfl b4 (by decide) rfl rfl rfl (Nat.le_of_ble_eq_true rfl) zm181 (Nat.le_of_ble_eq_true rfl) rfl ?_
  refine z_e1 (pc1 := 1) (L1 := [some (.ref 4), some (.int x1), some (.int x2), some (.int x3), some (.int x4), some (.int x5)]) (S1 := [.int x1]) zd181_0 rfl rfl rfl ?_
  refine z_ecS (vs := [.int x1]) (r := []) (L2 := [some (.int x1)]) zd181_1 zcS181_148 (Or.inl rfl) (Nat.le_of_ble_eq_true rfl) rfl rfl (Nat.le_of_ble_eq_true rfl) zm58 (Nat.le_of_ble_eq_true rfl) rfl ?_
  refine z_e1 (pc1 := 1) (L1 := [some (.int x1)]) (S1 := [.int x1]) zd58_0 rfl rfl rfl ?_
  by_cases e1 : x1.toInt < 0
  · refine z_ez (t := 14) (t2 := 14) zd58_1 rfl (z_b_ltx1 (k := 0) (by decide) e1) ?_
    refine z_e1 (pc1 := 15) (L1 := [some (.int x1)]) (S1 := [.int 0]) zd58_14 rfl rfl rfl ?_
    refine z_erz zd58_15 zr58 (by decide) ?_
    show z_ev _ 181 4 [some (.ref 4), some (.int x1), some (.int x2), some (.int x3), some (.int x4), some (.int x5)] [.int 0] _ _
    refine z_ez (t := 14) (t2 := 14) zd181_4 rfl rfl ?_
    refine z_e1 (pc1 := 15) (L1 := [some (.ref 4), some (.int x1), some (.int x2), some (.int x3), some (.int x4), some (.int x5)]) (S1 := [.int (-1)]) zd181_14 rfl rfl rfl ?_
    refine z_eri zd181_15 zr181 ?_
    show z_ev _ 0 1685 [some (.ref 0), some (.ref 4), some (.ref 19), some (.int 0)] [.int (-1)] _ _
    refine z_e1 (pc1 := 1686) (L1 := [some (.ref 0), some (.ref 4), some (.ref 19), some (.int 0)]) (S1 := [.ref 19, .int (-1)]) zd0_1685 rfl rfl rfl ?_
    refine z_e1 (pc1 := 1687) (L1 := [some (.ref 0), some (.ref 4), some (.ref 19), some (.int 0)]) (S1 := [.ref 0, .ref 19, .int (-1)]) zd0_1686 rfl rfl rfl ?_
    refine z_e1 (pc1 := 1688) (L1 := [some (.ref 0), some (.ref 4), some (.ref 19), some (.int 0)]) (S1 := [.int 0, .ref 0, .ref 19, .int (-1)]) zd0_1687 rfl rfl rfl ?_
    refine z_e1 (pc1 := 1689) (L1 := [some (.ref 0), some (.ref 4), some (.ref 19), some (.int 0)]) (S1 := [.int 1, .int 0, .ref 0, .ref 19, .int (-1)]) zd0_1688 rfl rfl rfl ?_
    refine z_e1 (pc1 := 1690) (L1 := [some (.ref 0), some (.ref 4), some (.ref 19), some (.int 0)]) (S1 := [.int 1, .ref 0, .ref 19, .int (-1)]) zd0_1689 rfl rfl rfl ?_
    refine z_eial (y := x1) zd0_1690 h0 (by decide) g1 ?_
    refine z_e1 (pc1 := 1692) (L1 := [some (.ref 0), some (.ref 4), some (.ref 19), some (.int 0)]) (S1 := [.ref 0, .int x1, .ref 19, .int (-1)]) zd0_1691 rfl rfl rfl ?_
    refine z_e1 (pc1 := 1693) (L1 := [some (.ref 0), some (.ref 4), some (.ref 19), some (.int 0)]) (S1 := [.int 0, .ref 0, .int x1, .ref 19, .int (-1)]) zd0_1692 rfl rfl rfl ?_
    refine z_e1 (pc1 := 1694) (L1 := [some (.ref 0), some (.ref 4), some (.ref 19), some (.int 0)]) (S1 := [.int 2, .int 0, .ref 0, .int x1, .ref 19, .int (-1)]) zd0_1693 rfl rfl rfl ?_
    refine z_e1 (pc1 := 1695) (L1 := [some (.ref 0), some (.ref 4), some (.ref 19), some (.int 0)]) (S1 := [.int 2, .ref 0, .int x1, .ref 19, .int (-1)]) zd0_1694 rfl rfl rfl ?_
    refine z_eial (y := x2) zd0_1695 h0 (by decide) g2 ?_
    refine z_e1 (pc1 := 1697) (L1 := [some (.ref 0), some (.ref 4), some (.ref 19), some (.int 0)]) (S1 := [.ref 0, .int x2, .int x1, .ref 19, .int (-1)]) zd0_1696 rfl rfl rfl ?_
    refine z_e1 (pc1 := 1698) (L1 := [some (.ref 0), some (.ref 4), some (.ref 19), some (.int 0)]) (S1 := [.int 0, .ref 0, .int x2, .int x1, .ref 19, .int (-1)]) zd0_1697 rfl rfl rfl ?_
    refine z_e1 (pc1 := 1699) (L1 := [some (.ref 0), some (.ref 4), some (.ref 19), some (.int 0)]) (S1 := [.int 3, .int 0, .ref 0, .int x2, .int x1, .ref 19, .int (-1)]) zd0_1698 rfl rfl rfl ?_
    refine z_e1 (pc1 := 1700) (L1 := [some (.ref 0), some (.ref 4), some (.ref 19), some (.int 0)]) (S1 := [.int 3, .ref 0, .int x2, .int x1, .ref 19, .int (-1)]) zd0_1699 rfl rfl rfl ?_
    refine z_eial (y := x3) zd0_1700 h0 (by decide) g3 ?_
    refine z_e1 (pc1 := 1702) (L1 := [some (.ref 0), some (.ref 4), some (.ref 19), some (.int 0)]) (S1 := [.ref 0, .int x3, .int x2, .int x1, .ref 19, .int (-1)]) zd0_1701 rfl rfl rfl ?_
    refine z_e1 (pc1 := 1703) (L1 := [some (.ref 0), some (.ref 4), some (.ref 19), some (.int 0)]) (S1 := [.int 0, .ref 0, .int x3, .int x2, .int x1, .ref 19, .int (-1)]) zd0_1702 rfl rfl rfl ?_
    refine z_e1 (pc1 := 1704) (L1 := [some (.ref 0), some (.ref 4), some (.ref 19), some (.int 0)]) (S1 := [.int 4, .int 0, .ref 0, .int x3, .int x2, .int x1, .ref 19, .int (-1)]) zd0_1703 rfl rfl rfl ?_
    refine z_e1 (pc1 := 1705) (L1 := [some (.ref 0), some (.ref 4), some (.ref 19), some (.int 0)]) (S1 := [.int 4, .ref 0, .int x3, .int x2, .int x1, .ref 19, .int (-1)]) zd0_1704 rfl rfl rfl ?_
    refine z_eial (y := x4) zd0_1705 h0 (by decide) g4 ?_
    refine z_e1 (pc1 := 1707) (L1 := [some (.ref 0), some (.ref 4), some (.ref 19), some (.int 0)]) (S1 := [.ref 0, .int x4, .int x3, .int x2, .int x1, .ref 19, .int (-1)]) zd0_1706 rfl rfl rfl ?_
    refine z_e1 (pc1 := 1708) (L1 := [some (.ref 0), some (.ref 4), some (.ref 19), some (.int 0)]) (S1 := [.int 0, .ref 0, .int x4, .int x3, .int x2, .int x1, .ref 19, .int (-1)]) zd0_1707 rfl rfl rfl ?_
    refine z_e1 (pc1 := 1709) (L1 := [some (.ref 0), some (.ref 4), some (.ref 19), some (.int 0)]) (S1 := [.int 5, .int 0, .ref 0, .int x4, .int x3, .int x2, .int x1, .ref 19, .int (-1)]) zd0_1708 rfl rfl rfl ?_
    refine z_e1 (pc1 := 1710) (L1 := [some (.ref 0), some (.ref 4), some (.ref 19), some (.int 0)]) (S1 := [.int 5, .ref 0, .int x4, .int x3, .int x2, .int x1, .ref 19, .int (-1)]) zd0_1709 rfl rfl rfl ?_
    refine z_eial (y := x5) zd0_1710 h0 (by decide) g5 ?_
    refine z_ecV (vs := [.ref 19, .int x1, .int x2, .int x3, .int x4, .int x5]) (r := [.int (-1)]) (L2 := [some (.ref 19), some (.int x1), some (.int x2), some (.int x3), some (.int x4), some (.int x5), none]) zd0_1711 zcV0_166 (Or.inl rfl) rfl b19 (by decide) rfl rfl rfl (Nat.le_of_ble_eq_true rfl) zm290 (Nat.le_of_ble_eq_true rfl) rfl ?_
    refine z_e1 (pc1 := 1) (L1 := [some (.ref 19), some (.int x1), some (.int x2), some (.int x3), some (.int x4), some (.int x5), none]) (S1 := [.int x1]) zd290_0 rfl rfl rfl ?_
    refine z_ecS (vs := [.int x1]) (r := []) (L2 := [some (.int x1)]) zd290_1 zcS290_237 (Or.inl rfl) (Nat.le_of_ble_eq_true rfl) rfl rfl (Nat.le_of_ble_eq_true rfl) zm225 (Nat.le_of_ble_eq_true rfl) rfl ?_
    refine z_e1 (pc1 := 1) (L1 := [some (.int x1)]) (S1 := [.int x1]) zd225_0 rfl rfl rfl ?_
    refine z_e1 (pc1 := 2) (L1 := [some (.int x1)]) (S1 := [.long ((x1 : Int32).toInt64)]) zd225_1 rfl rfl rfl ?_
    refine z_e1 (pc1 := 3) (L1 := [some (.int x1)]) (S1 := [.long 0, .long ((x1 : Int32).toInt64)]) zd225_2 rfl rfl rfl ?_
    refine z_eld2 zd225_3 zl225_318 ?_
    refine z_ecS (vs := [.long ((x1 : Int32).toInt64), .long 0, .long 5]) (r := []) (L2 := [some (.long ((x1 : Int32).toInt64)), none, some (.long 0), none, some (.long 5), none]) zd225_6 zcS225_116 (Or.inl rfl) (Nat.le_of_ble_eq_true rfl) rfl rfl (Nat.le_of_ble_eq_true rfl) zm189 (Nat.le_of_ble_eq_true rfl) rfl ?_
    refine z_e1 (pc1 := 1) (L1 := [some (.long ((x1 : Int32).toInt64)), none, some (.long 0), none, some (.long 5), none]) (S1 := [.long ((x1 : Int32).toInt64)]) zd189_0 rfl rfl rfl ?_
    refine z_e1 (pc1 := 2) (L1 := [some (.long ((x1 : Int32).toInt64)), none, some (.long 0), none, some (.long 5), none]) (S1 := [.long 0, .long ((x1 : Int32).toInt64)]) zd189_1 rfl rfl rfl ?_
    refine z_e1 (pc1 := 3) (L1 := [some (.long ((x1 : Int32).toInt64)), none, some (.long 0), none, some (.long 5), none]) (S1 := [.int (lg_cmp ((x1 : Int32).toInt64) 0)]) zd189_2 rfl rfl rfl ?_
    refine z_ez (t := 17) (t2 := 17) zd189_3 rfl (z_b_ltl1 (k := 0) (by decide) (show x1.toInt < 0 from by omega)) ?_
    refine z_e1 (pc1 := 18) (L1 := [some (.long ((x1 : Int32).toInt64)), none, some (.long 0), none, some (.long 5), none]) (S1 := [.int 0]) zd189_17 rfl rfl rfl ?_
    refine z_erz zd189_18 zr189 (by decide) ?_
    show z_ev _ 225 9 [some (.int x1)] [.int 0] _ _
    refine z_erz zd225_9 zr225 (by decide) ?_
    show z_ev _ 290 4 [some (.ref 19), some (.int x1), some (.int x2), some (.int x3), some (.int x4), some (.int x5), none] [.int 0] _ _
    refine z_ez (t := 14) (t2 := 14) zd290_4 rfl rfl ?_
    refine z_e1 (pc1 := 15) (L1 := [some (.ref 19), some (.int x1), some (.int x2), some (.int x3), some (.int x4), some (.int x5), none]) (S1 := [.int (-1)]) zd290_14 rfl rfl rfl ?_
    refine z_eri zd290_15 zr290 ?_
    show z_ev _ 0 1714 [some (.ref 0), some (.ref 4), some (.ref 19), some (.int 0)] [.int (-1), .int (-1)] _ _
    refine z_ej (t := 1775) (t2 := 1775) zd0_1714 rfl rfl ?_
    refine z_e1 (pc1 := 1778) (L1 := [some (.ref 0), some (.ref 4), some (.ref 19), some (.int 6)]) (S1 := []) zd0_1775 rfl rfl rfl ?_
    refine z_e1 (pc1 := 18) (L1 := [some (.ref 0), some (.ref 4), some (.ref 19), some (.int 6)]) (S1 := []) zd0_1778 rfl rfl rfl ?_
    refine z_e1 (pc1 := 19) (L1 := [some (.ref 0), some (.ref 4), some (.ref 19), some (.int 6)]) (S1 := [.int 6]) zd0_18 rfl rfl rfl ?_
    refine z_e1 (pc1 := 20) (L1 := [some (.ref 0), some (.ref 4), some (.ref 19), some (.int 6)]) (S1 := [.ref 0, .int 6]) zd0_19 rfl rfl rfl ?_
    refine z_ealn (y := 6) zd0_20 h0 rfl ?_
    refine z_e1 (pc1 := 23) (L1 := [some (.ref 0), some (.ref 4), some (.ref 19), some (.int 6)]) (S1 := [.int 6, .int 6, .int 6]) zd0_21 rfl rfl rfl ?_
    refine z_e1 (pc1 := 24) (L1 := [some (.ref 0), some (.ref 4), some (.ref 19), some (.int 6)]) (S1 := [.int 0, .int 6]) zd0_23 rfl rfl rfl ?_
    refine z_ej (t := 1781) (t2 := 1781) zd0_24 rfl rfl ?_
    refine z_e1 (pc1 := 1782) (L1 := [some (.ref 0), some (.ref 4), some (.ref 19), some (.int 6)]) (S1 := [.int 1]) zd0_1781 rfl rfl rfl ?_
    refine z_erz zd0_1782 zr0 (by decide) ?_
    exact z_K1i hN hS (by decide) (by decide)
  · refine z_ez (t := 14) (t2 := 4) zd58_1 rfl (z_b_ltx0 (k := 0) (by decide) e1) ?_
    refine z_e1 (pc1 := 5) (L1 := [some (.int x1)]) (S1 := [.int x1]) zd58_4 rfl rfl rfl ?_
    refine z_e1 (pc1 := 7) (L1 := [some (.int x1)]) (S1 := [.int 6, .int x1]) zd58_5 rfl rfl rfl ?_
    by_cases e2 : x1.toInt < 6
    · refine z_ej (t := 14) (t2 := 10) zd58_7 rfl (z_b_gex1 (k := 6) (by decide) e2) ?_
      refine z_e1 (pc1 := 11) (L1 := [some (.int x1)]) (S1 := [.int 1]) zd58_10 rfl rfl rfl ?_
      refine z_e1 (pc1 := 15) (L1 := [some (.int x1)]) (S1 := [.int 1]) zd58_11 rfl rfl rfl ?_
      refine z_erz zd58_15 zr58 (by decide) ?_
      show z_ev _ 181 4 [some (.ref 4), some (.int x1), some (.int x2), some (.int x3), some (.int x4), some (.int x5)] [.int 1] _ _
      refine z_ez (t := 14) (t2 := 7) zd181_4 rfl rfl ?_
      refine z_e1 (pc1 := 8) (L1 := [some (.ref 4), some (.int x1), some (.int x2), some (.int x3), some (.int x4), some (.int x5)]) (S1 := [.int x3]) zd181_7 rfl rfl rfl ?_
      refine z_ecS (vs := [.int x3]) (r := []) (L2 := [some (.int x3)]) zd181_8 zcS181_148 (Or.inl rfl) (Nat.le_of_ble_eq_true rfl) rfl rfl (Nat.le_of_ble_eq_true rfl) zm58 (Nat.le_of_ble_eq_true rfl) rfl ?_
      refine z_e1 (pc1 := 1) (L1 := [some (.int x3)]) (S1 := [.int x3]) zd58_0 rfl rfl rfl ?_
      by_cases e3 : x3.toInt < 0
      · refine z_ez (t := 14) (t2 := 14) zd58_1 rfl (z_b_ltx1 (k := 0) (by decide) e3) ?_
        refine z_e1 (pc1 := 15) (L1 := [some (.int x3)]) (S1 := [.int 0]) zd58_14 rfl rfl rfl ?_
        refine z_erz zd58_15 zr58 (by decide) ?_
        show z_ev _ 181 11 [some (.ref 4), some (.int x1), some (.int x2), some (.int x3), some (.int x4), some (.int x5)] [.int 0] _ _
        refine z_ez (t := 16) (t2 := 14) zd181_11 rfl rfl ?_
        refine z_e1 (pc1 := 15) (L1 := [some (.ref 4), some (.int x1), some (.int x2), some (.int x3), some (.int x4), some (.int x5)]) (S1 := [.int (-1)]) zd181_14 rfl rfl rfl ?_
        refine z_eri zd181_15 zr181 ?_
        show z_ev _ 0 1685 [some (.ref 0), some (.ref 4), some (.ref 19), some (.int 0)] [.int (-1)] _ _
        refine z_e1 (pc1 := 1686) (L1 := [some (.ref 0), some (.ref 4), some (.ref 19), some (.int 0)]) (S1 := [.ref 19, .int (-1)]) zd0_1685 rfl rfl rfl ?_
        refine z_e1 (pc1 := 1687) (L1 := [some (.ref 0), some (.ref 4), some (.ref 19), some (.int 0)]) (S1 := [.ref 0, .ref 19, .int (-1)]) zd0_1686 rfl rfl rfl ?_
        refine z_e1 (pc1 := 1688) (L1 := [some (.ref 0), some (.ref 4), some (.ref 19), some (.int 0)]) (S1 := [.int 0, .ref 0, .ref 19, .int (-1)]) zd0_1687 rfl rfl rfl ?_
        refine z_e1 (pc1 := 1689) (L1 := [some (.ref 0), some (.ref 4), some (.ref 19), some (.int 0)]) (S1 := [.int 1, .int 0, .ref 0, .ref 19, .int (-1)]) zd0_1688 rfl rfl rfl ?_
        refine z_e1 (pc1 := 1690) (L1 := [some (.ref 0), some (.ref 4), some (.ref 19), some (.int 0)]) (S1 := [.int 1, .ref 0, .ref 19, .int (-1)]) zd0_1689 rfl rfl rfl ?_
        refine z_eial (y := x1) zd0_1690 h0 (by decide) g1 ?_
        refine z_e1 (pc1 := 1692) (L1 := [some (.ref 0), some (.ref 4), some (.ref 19), some (.int 0)]) (S1 := [.ref 0, .int x1, .ref 19, .int (-1)]) zd0_1691 rfl rfl rfl ?_
        refine z_e1 (pc1 := 1693) (L1 := [some (.ref 0), some (.ref 4), some (.ref 19), some (.int 0)]) (S1 := [.int 0, .ref 0, .int x1, .ref 19, .int (-1)]) zd0_1692 rfl rfl rfl ?_
        refine z_e1 (pc1 := 1694) (L1 := [some (.ref 0), some (.ref 4), some (.ref 19), some (.int 0)]) (S1 := [.int 2, .int 0, .ref 0, .int x1, .ref 19, .int (-1)]) zd0_1693 rfl rfl rfl ?_
        refine z_e1 (pc1 := 1695) (L1 := [some (.ref 0), some (.ref 4), some (.ref 19), some (.int 0)]) (S1 := [.int 2, .ref 0, .int x1, .ref 19, .int (-1)]) zd0_1694 rfl rfl rfl ?_
        refine z_eial (y := x2) zd0_1695 h0 (by decide) g2 ?_
        refine z_e1 (pc1 := 1697) (L1 := [some (.ref 0), some (.ref 4), some (.ref 19), some (.int 0)]) (S1 := [.ref 0, .int x2, .int x1, .ref 19, .int (-1)]) zd0_1696 rfl rfl rfl ?_
        refine z_e1 (pc1 := 1698) (L1 := [some (.ref 0), some (.ref 4), some (.ref 19), some (.int 0)]) (S1 := [.int 0, .ref 0, .int x2, .int x1, .ref 19, .int (-1)]) zd0_1697 rfl rfl rfl ?_
        refine z_e1 (pc1 := 1699) (L1 := [some (.ref 0), some (.ref 4), some (.ref 19), some (.int 0)]) (S1 := [.int 3, .int 0, .ref 0, .int x2, .int x1, .ref 19, .int (-1)]) zd0_1698 rfl rfl rfl ?_
        refine z_e1 (pc1 := 1700) (L1 := [some (.ref 0), some (.ref 4), some (.ref 19), some (.int 0)]) (S1 := [.int 3, .ref 0, .int x2, .int x1, .ref 19, .int (-1)]) zd0_1699 rfl rfl rfl ?_
        refine z_eial (y := x3) zd0_1700 h0 (by decide) g3 ?_
        refine z_e1 (pc1 := 1702) (L1 := [some (.ref 0), some (.ref 4), some (.ref 19), some (.int 0)]) (S1 := [.ref 0, .int x3, .int x2, .int x1, .ref 19, .int (-1)]) zd0_1701 rfl rfl rfl ?_
        refine z_e1 (pc1 := 1703) (L1 := [some (.ref 0), some (.ref 4), some (.ref 19), some (.int 0)]) (S1 := [.int 0, .ref 0, .int x3, .int x2, .int x1, .ref 19, .int (-1)]) zd0_1702 rfl rfl rfl ?_
        refine z_e1 (pc1 := 1704) (L1 := [some (.ref 0), some (.ref 4), some (.ref 19), some (.int 0)]) (S1 := [.int 4, .int 0, .ref 0, .int x3, .int x2, .int x1, .ref 19, .int (-1)]) zd0_1703 rfl rfl rfl ?_
        refine z_e1 (pc1 := 1705) (L1 := [some (.ref 0), some (.ref 4), some (.ref 19), some (.int 0)]) (S1 := [.int 4, .ref 0, .int x3, .int x2, .int x1, .ref 19, .int (-1)]) zd0_1704 rfl rfl rfl ?_
        refine z_eial (y := x4) zd0_1705 h0 (by decide) g4 ?_
        refine z_e1 (pc1 := 1707) (L1 := [some (.ref 0), some (.ref 4), some (.ref 19), some (.int 0)]) (S1 := [.ref 0, .int x4, .int x3, .int x2, .int x1, .ref 19, .int (-1)]) zd0_1706 rfl rfl rfl ?_
        refine z_e1 (pc1 := 1708) (L1 := [some (.ref 0), some (.ref 4), some (.ref 19), some (.int 0)]) (S1 := [.int 0, .ref 0, .int x4, .int x3, .int x2, .int x1, .ref 19, .int (-1)]) zd0_1707 rfl rfl rfl ?_
        refine z_e1 (pc1 := 1709) (L1 := [some (.ref 0), some (.ref 4), some (.ref 19), some (.int 0)]) (S1 := [.int 5, .int 0, .ref 0, .int x4, .int x3, .int x2, .int x1, .ref 19, .int (-1)]) zd0_1708 rfl rfl rfl ?_
        refine z_e1 (pc1 := 1710) (L1 := [some (.ref 0), some (.ref 4), some (.ref 19), some (.int 0)]) (S1 := [.int 5, .ref 0, .int x4, .int x3, .int x2, .int x1, .ref 19, .int (-1)]) zd0_1709 rfl rfl rfl ?_
        refine z_eial (y := x5) zd0_1710 h0 (by decide) g5 ?_
        refine z_ecV (vs := [.ref 19, .int x1, .int x2, .int x3, .int x4, .int x5]) (r := [.int (-1)]) (L2 := [some (.ref 19), some (.int x1), some (.int x2), some (.int x3), some (.int x4), some (.int x5), none]) zd0_1711 zcV0_166 (Or.inl rfl) rfl b19 (by decide) rfl rfl rfl (Nat.le_of_ble_eq_true rfl) zm290 (Nat.le_of_ble_eq_true rfl) rfl ?_
        refine z_e1 (pc1 := 1) (L1 := [some (.ref 19), some (.int x1), some (.int x2), some (.int x3), some (.int x4), some (.int x5), none]) (S1 := [.int x1]) zd290_0 rfl rfl rfl ?_
        refine z_ecS (vs := [.int x1]) (r := []) (L2 := [some (.int x1)]) zd290_1 zcS290_237 (Or.inl rfl) (Nat.le_of_ble_eq_true rfl) rfl rfl (Nat.le_of_ble_eq_true rfl) zm225 (Nat.le_of_ble_eq_true rfl) rfl ?_
        refine z_e1 (pc1 := 1) (L1 := [some (.int x1)]) (S1 := [.int x1]) zd225_0 rfl rfl rfl ?_
        refine z_e1 (pc1 := 2) (L1 := [some (.int x1)]) (S1 := [.long ((x1 : Int32).toInt64)]) zd225_1 rfl rfl rfl ?_
        refine z_e1 (pc1 := 3) (L1 := [some (.int x1)]) (S1 := [.long 0, .long ((x1 : Int32).toInt64)]) zd225_2 rfl rfl rfl ?_
        refine z_eld2 zd225_3 zl225_318 ?_
        refine z_ecS (vs := [.long ((x1 : Int32).toInt64), .long 0, .long 5]) (r := []) (L2 := [some (.long ((x1 : Int32).toInt64)), none, some (.long 0), none, some (.long 5), none]) zd225_6 zcS225_116 (Or.inl rfl) (Nat.le_of_ble_eq_true rfl) rfl rfl (Nat.le_of_ble_eq_true rfl) zm189 (Nat.le_of_ble_eq_true rfl) rfl ?_
        refine z_e1 (pc1 := 1) (L1 := [some (.long ((x1 : Int32).toInt64)), none, some (.long 0), none, some (.long 5), none]) (S1 := [.long ((x1 : Int32).toInt64)]) zd189_0 rfl rfl rfl ?_
        refine z_e1 (pc1 := 2) (L1 := [some (.long ((x1 : Int32).toInt64)), none, some (.long 0), none, some (.long 5), none]) (S1 := [.long 0, .long ((x1 : Int32).toInt64)]) zd189_1 rfl rfl rfl ?_
        refine z_e1 (pc1 := 3) (L1 := [some (.long ((x1 : Int32).toInt64)), none, some (.long 0), none, some (.long 5), none]) (S1 := [.int (lg_cmp ((x1 : Int32).toInt64) 0)]) zd189_2 rfl rfl rfl ?_
        refine z_ez (t := 17) (t2 := 6) zd189_3 rfl (z_b_ltl0 (k := 0) (by decide) (show ¬ x1.toInt < 0 from by omega)) ?_
        refine z_e1 (pc1 := 7) (L1 := [some (.long ((x1 : Int32).toInt64)), none, some (.long 0), none, some (.long 5), none]) (S1 := [.long ((x1 : Int32).toInt64)]) zd189_6 rfl rfl rfl ?_
        refine z_e1 (pc1 := 9) (L1 := [some (.long ((x1 : Int32).toInt64)), none, some (.long 0), none, some (.long 5), none]) (S1 := [.long 5, .long ((x1 : Int32).toInt64)]) zd189_7 rfl rfl rfl ?_
        refine z_e1 (pc1 := 10) (L1 := [some (.long ((x1 : Int32).toInt64)), none, some (.long 0), none, some (.long 5), none]) (S1 := [.int (lg_cmp ((x1 : Int32).toInt64) 5)]) zd189_9 rfl rfl rfl ?_
        refine z_ez (t := 17) (t2 := 13) zd189_10 rfl (z_b_gtl0 (k := 5) (by decide) (show ¬ 5 < x1.toInt from by omega)) ?_
        refine z_e1 (pc1 := 14) (L1 := [some (.long ((x1 : Int32).toInt64)), none, some (.long 0), none, some (.long 5), none]) (S1 := [.int 1]) zd189_13 rfl rfl rfl ?_
        refine z_e1 (pc1 := 18) (L1 := [some (.long ((x1 : Int32).toInt64)), none, some (.long 0), none, some (.long 5), none]) (S1 := [.int 1]) zd189_14 rfl rfl rfl ?_
        refine z_erz zd189_18 zr189 (by decide) ?_
        show z_ev _ 225 9 [some (.int x1)] [.int 1] _ _
        refine z_erz zd225_9 zr225 (by decide) ?_
        show z_ev _ 290 4 [some (.ref 19), some (.int x1), some (.int x2), some (.int x3), some (.int x4), some (.int x5), none] [.int 1] _ _
        refine z_ez (t := 14) (t2 := 7) zd290_4 rfl rfl ?_
        refine z_e1 (pc1 := 8) (L1 := [some (.ref 19), some (.int x1), some (.int x2), some (.int x3), some (.int x4), some (.int x5), none]) (S1 := [.int x3]) zd290_7 rfl rfl rfl ?_
        refine z_ecS (vs := [.int x3]) (r := []) (L2 := [some (.int x3)]) zd290_8 zcS290_237 (Or.inl rfl) (Nat.le_of_ble_eq_true rfl) rfl rfl (Nat.le_of_ble_eq_true rfl) zm225 (Nat.le_of_ble_eq_true rfl) rfl ?_
        refine z_e1 (pc1 := 1) (L1 := [some (.int x3)]) (S1 := [.int x3]) zd225_0 rfl rfl rfl ?_
        refine z_e1 (pc1 := 2) (L1 := [some (.int x3)]) (S1 := [.long ((x3 : Int32).toInt64)]) zd225_1 rfl rfl rfl ?_
        refine z_e1 (pc1 := 3) (L1 := [some (.int x3)]) (S1 := [.long 0, .long ((x3 : Int32).toInt64)]) zd225_2 rfl rfl rfl ?_
        refine z_eld2 zd225_3 zl225_318 ?_
        refine z_ecS (vs := [.long ((x3 : Int32).toInt64), .long 0, .long 5]) (r := []) (L2 := [some (.long ((x3 : Int32).toInt64)), none, some (.long 0), none, some (.long 5), none]) zd225_6 zcS225_116 (Or.inl rfl) (Nat.le_of_ble_eq_true rfl) rfl rfl (Nat.le_of_ble_eq_true rfl) zm189 (Nat.le_of_ble_eq_true rfl) rfl ?_
        refine z_e1 (pc1 := 1) (L1 := [some (.long ((x3 : Int32).toInt64)), none, some (.long 0), none, some (.long 5), none]) (S1 := [.long ((x3 : Int32).toInt64)]) zd189_0 rfl rfl rfl ?_
        refine z_e1 (pc1 := 2) (L1 := [some (.long ((x3 : Int32).toInt64)), none, some (.long 0), none, some (.long 5), none]) (S1 := [.long 0, .long ((x3 : Int32).toInt64)]) zd189_1 rfl rfl rfl ?_
        refine z_e1 (pc1 := 3) (L1 := [some (.long ((x3 : Int32).toInt64)), none, some (.long 0), none, some (.long 5), none]) (S1 := [.int (lg_cmp ((x3 : Int32).toInt64) 0)]) zd189_2 rfl rfl rfl ?_
        refine z_ez (t := 17) (t2 := 17) zd189_3 rfl (z_b_ltl1 (k := 0) (by decide) (show x3.toInt < 0 from by omega)) ?_
        refine z_e1 (pc1 := 18) (L1 := [some (.long ((x3 : Int32).toInt64)), none, some (.long 0), none, some (.long 5), none]) (S1 := [.int 0]) zd189_17 rfl rfl rfl ?_
        refine z_erz zd189_18 zr189 (by decide) ?_
        show z_ev _ 225 9 [some (.int x3)] [.int 0] _ _
        refine z_erz zd225_9 zr225 (by decide) ?_
        show z_ev _ 290 11 [some (.ref 19), some (.int x1), some (.int x2), some (.int x3), some (.int x4), some (.int x5), none] [.int 0] _ _
        refine z_ez (t := 16) (t2 := 14) zd290_11 rfl rfl ?_
        refine z_e1 (pc1 := 15) (L1 := [some (.ref 19), some (.int x1), some (.int x2), some (.int x3), some (.int x4), some (.int x5), none]) (S1 := [.int (-1)]) zd290_14 rfl rfl rfl ?_
        refine z_eri zd290_15 zr290 ?_
        show z_ev _ 0 1714 [some (.ref 0), some (.ref 4), some (.ref 19), some (.int 0)] [.int (-1), .int (-1)] _ _
        refine z_ej (t := 1775) (t2 := 1775) zd0_1714 rfl rfl ?_
        refine z_e1 (pc1 := 1778) (L1 := [some (.ref 0), some (.ref 4), some (.ref 19), some (.int 6)]) (S1 := []) zd0_1775 rfl rfl rfl ?_
        refine z_e1 (pc1 := 18) (L1 := [some (.ref 0), some (.ref 4), some (.ref 19), some (.int 6)]) (S1 := []) zd0_1778 rfl rfl rfl ?_
        refine z_e1 (pc1 := 19) (L1 := [some (.ref 0), some (.ref 4), some (.ref 19), some (.int 6)]) (S1 := [.int 6]) zd0_18 rfl rfl rfl ?_
        refine z_e1 (pc1 := 20) (L1 := [some (.ref 0), some (.ref 4), some (.ref 19), some (.int 6)]) (S1 := [.ref 0, .int 6]) zd0_19 rfl rfl rfl ?_
        refine z_ealn (y := 6) zd0_20 h0 rfl ?_
        refine z_e1 (pc1 := 23) (L1 := [some (.ref 0), some (.ref 4), some (.ref 19), some (.int 6)]) (S1 := [.int 6, .int 6, .int 6]) zd0_21 rfl rfl rfl ?_
        refine z_e1 (pc1 := 24) (L1 := [some (.ref 0), some (.ref 4), some (.ref 19), some (.int 6)]) (S1 := [.int 0, .int 6]) zd0_23 rfl rfl rfl ?_
        refine z_ej (t := 1781) (t2 := 1781) zd0_24 rfl rfl ?_
        refine z_e1 (pc1 := 1782) (L1 := [some (.ref 0), some (.ref 4), some (.ref 19), some (.int 6)]) (S1 := [.int 1]) zd0_1781 rfl rfl rfl ?_
        refine z_erz zd0_1782 zr0 (by decide) ?_
        exact z_K1i hN hS (by decide) (by decide)
      · refine z_ez (t := 14) (t2 := 4) zd58_1 rfl (z_b_ltx0 (k := 0) (by decide) e3) ?_
        refine z_e1 (pc1 := 5) (L1 := [some (.int x3)]) (S1 := [.int x3]) zd58_4 rfl rfl rfl ?_
        refine z_e1 (pc1 := 7) (L1 := [some (.int x3)]) (S1 := [.int 6, .int x3]) zd58_5 rfl rfl rfl ?_
        by_cases e4 : x3.toInt < 6
        · refine z_ej (t := 14) (t2 := 10) zd58_7 rfl (z_b_gex1 (k := 6) (by decide) e4) ?_
          refine z_e1 (pc1 := 11) (L1 := [some (.int x3)]) (S1 := [.int 1]) zd58_10 rfl rfl rfl ?_
          refine z_e1 (pc1 := 15) (L1 := [some (.int x3)]) (S1 := [.int 1]) zd58_11 rfl rfl rfl ?_
          refine z_erz zd58_15 zr58 (by decide) ?_
          show z_ev _ 181 11 [some (.ref 4), some (.int x1), some (.int x2), some (.int x3), some (.int x4), some (.int x5)] [.int 1] _ _
          refine z_ez (t := 16) (t2 := 16) zd181_11 rfl rfl ?_
          refine z_e1 (pc1 := 17) (L1 := [some (.ref 4), some (.int x1), some (.int x2), some (.int x3), some (.int x4), some (.int x5)]) (S1 := [.ref 4]) zd181_16 rfl rfl rfl ?_
          refine z_egf (fs := [.ref 5, .ref 10, .ref 11, .int 0, .ref 12, .int 0, .ref 13, .ref 14, .ref 15, .ref 16, .ref 17, .ref 18, .null]) (v := .ref 14) zd181_17 zf181_35 b4 (by decide) (by decide) rfl ?_
          refine z_e1 (pc1 := 21) (L1 := [some (.ref 4), some (.int x1), some (.int x2), some (.int x3), some (.int x4), some (.int x5)]) (S1 := [.int x1, .ref 14]) zd181_20 rfl rfl rfl ?_
          refine z_eial (y := (-1)) zd181_21 b14 (z_inr (show 0 ≤ x1.toInt by omega) (show x1.toInt < (6 : Nat) by omega)) (c14 x1.toNatClampNeg (z_cll (show x1.toInt < (6 : Nat) by omega) (by decide))) ?_
          refine z_e1 (pc1 := 23) (L1 := [some (.ref 4), some (.int x1), some (.int x2), some (.int x3), some (.int x4), some (.int x5)]) (S1 := [.int (-1), .int (-1)]) zd181_22 rfl rfl rfl ?_
          refine z_ej (t := 36) (t2 := 36) zd181_23 rfl rfl ?_
          refine z_e1 (pc1 := 38) (L1 := [some (.ref 4), some (.int x1), some (.int x2), some (.int x3), some (.int x4), some (.int x5)]) (S1 := [.int (-11)]) zd181_36 rfl rfl rfl ?_
          refine z_eri zd181_38 zr181 ?_
          show z_ev _ 0 1685 [some (.ref 0), some (.ref 4), some (.ref 19), some (.int 0)] [.int (-11)] _ _
          refine z_e1 (pc1 := 1686) (L1 := [some (.ref 0), some (.ref 4), some (.ref 19), some (.int 0)]) (S1 := [.ref 19, .int (-11)]) zd0_1685 rfl rfl rfl ?_
          refine z_e1 (pc1 := 1687) (L1 := [some (.ref 0), some (.ref 4), some (.ref 19), some (.int 0)]) (S1 := [.ref 0, .ref 19, .int (-11)]) zd0_1686 rfl rfl rfl ?_
          refine z_e1 (pc1 := 1688) (L1 := [some (.ref 0), some (.ref 4), some (.ref 19), some (.int 0)]) (S1 := [.int 0, .ref 0, .ref 19, .int (-11)]) zd0_1687 rfl rfl rfl ?_
          refine z_e1 (pc1 := 1689) (L1 := [some (.ref 0), some (.ref 4), some (.ref 19), some (.int 0)]) (S1 := [.int 1, .int 0, .ref 0, .ref 19, .int (-11)]) zd0_1688 rfl rfl rfl ?_
          refine z_e1 (pc1 := 1690) (L1 := [some (.ref 0), some (.ref 4), some (.ref 19), some (.int 0)]) (S1 := [.int 1, .ref 0, .ref 19, .int (-11)]) zd0_1689 rfl rfl rfl ?_
          refine z_eial (y := x1) zd0_1690 h0 (by decide) g1 ?_
          refine z_e1 (pc1 := 1692) (L1 := [some (.ref 0), some (.ref 4), some (.ref 19), some (.int 0)]) (S1 := [.ref 0, .int x1, .ref 19, .int (-11)]) zd0_1691 rfl rfl rfl ?_
          refine z_e1 (pc1 := 1693) (L1 := [some (.ref 0), some (.ref 4), some (.ref 19), some (.int 0)]) (S1 := [.int 0, .ref 0, .int x1, .ref 19, .int (-11)]) zd0_1692 rfl rfl rfl ?_
          refine z_e1 (pc1 := 1694) (L1 := [some (.ref 0), some (.ref 4), some (.ref 19), some (.int 0)]) (S1 := [.int 2, .int 0, .ref 0, .int x1, .ref 19, .int (-11)]) zd0_1693 rfl rfl rfl ?_
          refine z_e1 (pc1 := 1695) (L1 := [some (.ref 0), some (.ref 4), some (.ref 19), some (.int 0)]) (S1 := [.int 2, .ref 0, .int x1, .ref 19, .int (-11)]) zd0_1694 rfl rfl rfl ?_
          refine z_eial (y := x2) zd0_1695 h0 (by decide) g2 ?_
          refine z_e1 (pc1 := 1697) (L1 := [some (.ref 0), some (.ref 4), some (.ref 19), some (.int 0)]) (S1 := [.ref 0, .int x2, .int x1, .ref 19, .int (-11)]) zd0_1696 rfl rfl rfl ?_
          refine z_e1 (pc1 := 1698) (L1 := [some (.ref 0), some (.ref 4), some (.ref 19), some (.int 0)]) (S1 := [.int 0, .ref 0, .int x2, .int x1, .ref 19, .int (-11)]) zd0_1697 rfl rfl rfl ?_
          refine z_e1 (pc1 := 1699) (L1 := [some (.ref 0), some (.ref 4), some (.ref 19), some (.int 0)]) (S1 := [.int 3, .int 0, .ref 0, .int x2, .int x1, .ref 19, .int (-11)]) zd0_1698 rfl rfl rfl ?_
          refine z_e1 (pc1 := 1700) (L1 := [some (.ref 0), some (.ref 4), some (.ref 19), some (.int 0)]) (S1 := [.int 3, .ref 0, .int x2, .int x1, .ref 19, .int (-11)]) zd0_1699 rfl rfl rfl ?_
          refine z_eial (y := x3) zd0_1700 h0 (by decide) g3 ?_
          refine z_e1 (pc1 := 1702) (L1 := [some (.ref 0), some (.ref 4), some (.ref 19), some (.int 0)]) (S1 := [.ref 0, .int x3, .int x2, .int x1, .ref 19, .int (-11)]) zd0_1701 rfl rfl rfl ?_
          refine z_e1 (pc1 := 1703) (L1 := [some (.ref 0), some (.ref 4), some (.ref 19), some (.int 0)]) (S1 := [.int 0, .ref 0, .int x3, .int x2, .int x1, .ref 19, .int (-11)]) zd0_1702 rfl rfl rfl ?_
          refine z_e1 (pc1 := 1704) (L1 := [some (.ref 0), some (.ref 4), some (.ref 19), some (.int 0)]) (S1 := [.int 4, .int 0, .ref 0, .int x3, .int x2, .int x1, .ref 19, .int (-11)]) zd0_1703 rfl rfl rfl ?_
          refine z_e1 (pc1 := 1705) (L1 := [some (.ref 0), some (.ref 4), some (.ref 19), some (.int 0)]) (S1 := [.int 4, .ref 0, .int x3, .int x2, .int x1, .ref 19, .int (-11)]) zd0_1704 rfl rfl rfl ?_
          refine z_eial (y := x4) zd0_1705 h0 (by decide) g4 ?_
          refine z_e1 (pc1 := 1707) (L1 := [some (.ref 0), some (.ref 4), some (.ref 19), some (.int 0)]) (S1 := [.ref 0, .int x4, .int x3, .int x2, .int x1, .ref 19, .int (-11)]) zd0_1706 rfl rfl rfl ?_
          refine z_e1 (pc1 := 1708) (L1 := [some (.ref 0), some (.ref 4), some (.ref 19), some (.int 0)]) (S1 := [.int 0, .ref 0, .int x4, .int x3, .int x2, .int x1, .ref 19, .int (-11)]) zd0_1707 rfl rfl rfl ?_
          refine z_e1 (pc1 := 1709) (L1 := [some (.ref 0), some (.ref 4), some (.ref 19), some (.int 0)]) (S1 := [.int 5, .int 0, .ref 0, .int x4, .int x3, .int x2, .int x1, .ref 19, .int (-11)]) zd0_1708 rfl rfl rfl ?_
          refine z_e1 (pc1 := 1710) (L1 := [some (.ref 0), some (.ref 4), some (.ref 19), some (.int 0)]) (S1 := [.int 5, .ref 0, .int x4, .int x3, .int x2, .int x1, .ref 19, .int (-11)]) zd0_1709 rfl rfl rfl ?_
          refine z_eial (y := x5) zd0_1710 h0 (by decide) g5 ?_
          refine z_ecV (vs := [.ref 19, .int x1, .int x2, .int x3, .int x4, .int x5]) (r := [.int (-11)]) (L2 := [some (.ref 19), some (.int x1), some (.int x2), some (.int x3), some (.int x4), some (.int x5), none]) zd0_1711 zcV0_166 (Or.inl rfl) rfl b19 (by decide) rfl rfl rfl (Nat.le_of_ble_eq_true rfl) zm290 (Nat.le_of_ble_eq_true rfl) rfl ?_
          refine z_e1 (pc1 := 1) (L1 := [some (.ref 19), some (.int x1), some (.int x2), some (.int x3), some (.int x4), some (.int x5), none]) (S1 := [.int x1]) zd290_0 rfl rfl rfl ?_
          refine z_ecS (vs := [.int x1]) (r := []) (L2 := [some (.int x1)]) zd290_1 zcS290_237 (Or.inl rfl) (Nat.le_of_ble_eq_true rfl) rfl rfl (Nat.le_of_ble_eq_true rfl) zm225 (Nat.le_of_ble_eq_true rfl) rfl ?_
          refine z_e1 (pc1 := 1) (L1 := [some (.int x1)]) (S1 := [.int x1]) zd225_0 rfl rfl rfl ?_
          refine z_e1 (pc1 := 2) (L1 := [some (.int x1)]) (S1 := [.long ((x1 : Int32).toInt64)]) zd225_1 rfl rfl rfl ?_
          refine z_e1 (pc1 := 3) (L1 := [some (.int x1)]) (S1 := [.long 0, .long ((x1 : Int32).toInt64)]) zd225_2 rfl rfl rfl ?_
          refine z_eld2 zd225_3 zl225_318 ?_
          refine z_ecS (vs := [.long ((x1 : Int32).toInt64), .long 0, .long 5]) (r := []) (L2 := [some (.long ((x1 : Int32).toInt64)), none, some (.long 0), none, some (.long 5), none]) zd225_6 zcS225_116 (Or.inl rfl) (Nat.le_of_ble_eq_true rfl) rfl rfl (Nat.le_of_ble_eq_true rfl) zm189 (Nat.le_of_ble_eq_true rfl) rfl ?_
          refine z_e1 (pc1 := 1) (L1 := [some (.long ((x1 : Int32).toInt64)), none, some (.long 0), none, some (.long 5), none]) (S1 := [.long ((x1 : Int32).toInt64)]) zd189_0 rfl rfl rfl ?_
          refine z_e1 (pc1 := 2) (L1 := [some (.long ((x1 : Int32).toInt64)), none, some (.long 0), none, some (.long 5), none]) (S1 := [.long 0, .long ((x1 : Int32).toInt64)]) zd189_1 rfl rfl rfl ?_
          refine z_e1 (pc1 := 3) (L1 := [some (.long ((x1 : Int32).toInt64)), none, some (.long 0), none, some (.long 5), none]) (S1 := [.int (lg_cmp ((x1 : Int32).toInt64) 0)]) zd189_2 rfl rfl rfl ?_
          refine z_ez (t := 17) (t2 := 6) zd189_3 rfl (z_b_ltl0 (k := 0) (by decide) (show ¬ x1.toInt < 0 from by omega)) ?_
          refine z_e1 (pc1 := 7) (L1 := [some (.long ((x1 : Int32).toInt64)), none, some (.long 0), none, some (.long 5), none]) (S1 := [.long ((x1 : Int32).toInt64)]) zd189_6 rfl rfl rfl ?_
          refine z_e1 (pc1 := 9) (L1 := [some (.long ((x1 : Int32).toInt64)), none, some (.long 0), none, some (.long 5), none]) (S1 := [.long 5, .long ((x1 : Int32).toInt64)]) zd189_7 rfl rfl rfl ?_
          refine z_e1 (pc1 := 10) (L1 := [some (.long ((x1 : Int32).toInt64)), none, some (.long 0), none, some (.long 5), none]) (S1 := [.int (lg_cmp ((x1 : Int32).toInt64) 5)]) zd189_9 rfl rfl rfl ?_
          refine z_ez (t := 17) (t2 := 13) zd189_10 rfl (z_b_gtl0 (k := 5) (by decide) (show ¬ 5 < x1.toInt from by omega)) ?_
          refine z_e1 (pc1 := 14) (L1 := [some (.long ((x1 : Int32).toInt64)), none, some (.long 0), none, some (.long 5), none]) (S1 := [.int 1]) zd189_13 rfl rfl rfl ?_
          refine z_e1 (pc1 := 18) (L1 := [some (.long ((x1 : Int32).toInt64)), none, some (.long 0), none, some (.long 5), none]) (S1 := [.int 1]) zd189_14 rfl rfl rfl ?_
          refine z_erz zd189_18 zr189 (by decide) ?_
          show z_ev _ 225 9 [some (.int x1)] [.int 1] _ _
          refine z_erz zd225_9 zr225 (by decide) ?_
          show z_ev _ 290 4 [some (.ref 19), some (.int x1), some (.int x2), some (.int x3), some (.int x4), some (.int x5), none] [.int 1] _ _
          refine z_ez (t := 14) (t2 := 7) zd290_4 rfl rfl ?_
          refine z_e1 (pc1 := 8) (L1 := [some (.ref 19), some (.int x1), some (.int x2), some (.int x3), some (.int x4), some (.int x5), none]) (S1 := [.int x3]) zd290_7 rfl rfl rfl ?_
          refine z_ecS (vs := [.int x3]) (r := []) (L2 := [some (.int x3)]) zd290_8 zcS290_237 (Or.inl rfl) (Nat.le_of_ble_eq_true rfl) rfl rfl (Nat.le_of_ble_eq_true rfl) zm225 (Nat.le_of_ble_eq_true rfl) rfl ?_
          refine z_e1 (pc1 := 1) (L1 := [some (.int x3)]) (S1 := [.int x3]) zd225_0 rfl rfl rfl ?_
          refine z_e1 (pc1 := 2) (L1 := [some (.int x3)]) (S1 := [.long ((x3 : Int32).toInt64)]) zd225_1 rfl rfl rfl ?_
          refine z_e1 (pc1 := 3) (L1 := [some (.int x3)]) (S1 := [.long 0, .long ((x3 : Int32).toInt64)]) zd225_2 rfl rfl rfl ?_
          refine z_eld2 zd225_3 zl225_318 ?_
          refine z_ecS (vs := [.long ((x3 : Int32).toInt64), .long 0, .long 5]) (r := []) (L2 := [some (.long ((x3 : Int32).toInt64)), none, some (.long 0), none, some (.long 5), none]) zd225_6 zcS225_116 (Or.inl rfl) (Nat.le_of_ble_eq_true rfl) rfl rfl (Nat.le_of_ble_eq_true rfl) zm189 (Nat.le_of_ble_eq_true rfl) rfl ?_
          refine z_e1 (pc1 := 1) (L1 := [some (.long ((x3 : Int32).toInt64)), none, some (.long 0), none, some (.long 5), none]) (S1 := [.long ((x3 : Int32).toInt64)]) zd189_0 rfl rfl rfl ?_
          refine z_e1 (pc1 := 2) (L1 := [some (.long ((x3 : Int32).toInt64)), none, some (.long 0), none, some (.long 5), none]) (S1 := [.long 0, .long ((x3 : Int32).toInt64)]) zd189_1 rfl rfl rfl ?_
          refine z_e1 (pc1 := 3) (L1 := [some (.long ((x3 : Int32).toInt64)), none, some (.long 0), none, some (.long 5), none]) (S1 := [.int (lg_cmp ((x3 : Int32).toInt64) 0)]) zd189_2 rfl rfl rfl ?_
          refine z_ez (t := 17) (t2 := 6) zd189_3 rfl (z_b_ltl0 (k := 0) (by decide) (show ¬ x3.toInt < 0 from by omega)) ?_
          refine z_e1 (pc1 := 7) (L1 := [some (.long ((x3 : Int32).toInt64)), none, some (.long 0), none, some (.long 5), none]) (S1 := [.long ((x3 : Int32).toInt64)]) zd189_6 rfl rfl rfl ?_
          refine z_e1 (pc1 := 9) (L1 := [some (.long ((x3 : Int32).toInt64)), none, some (.long 0), none, some (.long 5), none]) (S1 := [.long 5, .long ((x3 : Int32).toInt64)]) zd189_7 rfl rfl rfl ?_
          refine z_e1 (pc1 := 10) (L1 := [some (.long ((x3 : Int32).toInt64)), none, some (.long 0), none, some (.long 5), none]) (S1 := [.int (lg_cmp ((x3 : Int32).toInt64) 5)]) zd189_9 rfl rfl rfl ?_
          refine z_ez (t := 17) (t2 := 13) zd189_10 rfl (z_b_gtl0 (k := 5) (by decide) (show ¬ 5 < x3.toInt from by omega)) ?_
          refine z_e1 (pc1 := 14) (L1 := [some (.long ((x3 : Int32).toInt64)), none, some (.long 0), none, some (.long 5), none]) (S1 := [.int 1]) zd189_13 rfl rfl rfl ?_
          refine z_e1 (pc1 := 18) (L1 := [some (.long ((x3 : Int32).toInt64)), none, some (.long 0), none, some (.long 5), none]) (S1 := [.int 1]) zd189_14 rfl rfl rfl ?_
          refine z_erz zd189_18 zr189 (by decide) ?_
          show z_ev _ 225 9 [some (.int x3)] [.int 1] _ _
          refine z_erz zd225_9 zr225 (by decide) ?_
          show z_ev _ 290 11 [some (.ref 19), some (.int x1), some (.int x2), some (.int x3), some (.int x4), some (.int x5), none] [.int 1] _ _
          refine z_ez (t := 16) (t2 := 16) zd290_11 rfl rfl ?_
          refine z_e1 (pc1 := 17) (L1 := [some (.ref 19), some (.int x1), some (.int x2), some (.int x3), some (.int x4), some (.int x5), none]) (S1 := [.ref 19]) zd290_16 rfl rfl rfl ?_
          refine z_egf (fs := [.ref 20, .int 0, .ref 21, .ref 22, .ref 23, .ref 24, .ref 25, .ref 26, .ref 27, .ref 28, .ref 29, .ref 30, .ref 31, .int 0, .ref 32, .ref 33, .ref 34, .ref 35, .ref 36, .ref 37, .ref 38, .int 0, .int 0, .int 0, .int 0, .int 0, .int 0, .int 0, .int 0, .int 0, .int 0, .ref 39, .ref 40, .ref 41, .int 0, .int 0, .ref 42, .ref 43, .ref 44, .ref 45, .ref 46, .int 0, .ref 47, .int 0, .int 0, .int 0, .ref 48, .int 0, .int 0, .ref 49, .ref 50, .ref 51, .ref 52]) (v := .ref 49) zd290_17 zf290_97 b19 (by decide) (by decide) rfl ?_
          refine z_e1 (pc1 := 21) (L1 := [some (.ref 19), some (.int x1), some (.int x2), some (.int x3), some (.int x4), some (.int x5), none]) (S1 := [.int x1, .ref 49]) zd290_20 rfl rfl rfl ?_
          refine z_eial (y := (-1)) zd290_21 b49 (z_inr (show 0 ≤ x1.toInt by omega) (show x1.toInt < (6 : Nat) by omega)) (c49 x1.toNatClampNeg (z_cll (show x1.toInt < (6 : Nat) by omega) (by decide))) ?_
          refine z_ez (t := 34) (t2 := 34) zd290_22 rfl rfl ?_
          refine z_e1 (pc1 := 36) (L1 := [some (.ref 19), some (.int x1), some (.int x2), some (.int x3), some (.int x4), some (.int x5), none]) (S1 := [.int (-11)]) zd290_34 rfl rfl rfl ?_
          refine z_eri zd290_36 zr290 ?_
          show z_ev _ 0 1714 [some (.ref 0), some (.ref 4), some (.ref 19), some (.int 0)] [.int (-11), .int (-11)] _ _
          refine z_ej (t := 1775) (t2 := 1775) zd0_1714 rfl rfl ?_
          refine z_e1 (pc1 := 1778) (L1 := [some (.ref 0), some (.ref 4), some (.ref 19), some (.int 6)]) (S1 := []) zd0_1775 rfl rfl rfl ?_
          refine z_e1 (pc1 := 18) (L1 := [some (.ref 0), some (.ref 4), some (.ref 19), some (.int 6)]) (S1 := []) zd0_1778 rfl rfl rfl ?_
          refine z_e1 (pc1 := 19) (L1 := [some (.ref 0), some (.ref 4), some (.ref 19), some (.int 6)]) (S1 := [.int 6]) zd0_18 rfl rfl rfl ?_
          refine z_e1 (pc1 := 20) (L1 := [some (.ref 0), some (.ref 4), some (.ref 19), some (.int 6)]) (S1 := [.ref 0, .int 6]) zd0_19 rfl rfl rfl ?_
          refine z_ealn (y := 6) zd0_20 h0 rfl ?_
          refine z_e1 (pc1 := 23) (L1 := [some (.ref 0), some (.ref 4), some (.ref 19), some (.int 6)]) (S1 := [.int 6, .int 6, .int 6]) zd0_21 rfl rfl rfl ?_
          refine z_e1 (pc1 := 24) (L1 := [some (.ref 0), some (.ref 4), some (.ref 19), some (.int 6)]) (S1 := [.int 0, .int 6]) zd0_23 rfl rfl rfl ?_
          refine z_ej (t := 1781) (t2 := 1781) zd0_24 rfl rfl ?_
          refine z_e1 (pc1 := 1782) (L1 := [some (.ref 0), some (.ref 4), some (.ref 19), some (.int 6)]) (S1 := [.int 1]) zd0_1781 rfl rfl rfl ?_
          refine z_erz zd0_1782 zr0 (by decide) ?_
          exact z_K1i hN hS (by decide) (by decide)
        · refine z_ej (t := 14) (t2 := 14) zd58_7 rfl (z_b_gex0 (k := 6) (by decide) e4) ?_
          refine z_e1 (pc1 := 15) (L1 := [some (.int x3)]) (S1 := [.int 0]) zd58_14 rfl rfl rfl ?_
          refine z_erz zd58_15 zr58 (by decide) ?_
          show z_ev _ 181 11 [some (.ref 4), some (.int x1), some (.int x2), some (.int x3), some (.int x4), some (.int x5)] [.int 0] _ _
          refine z_ez (t := 16) (t2 := 14) zd181_11 rfl rfl ?_
          refine z_e1 (pc1 := 15) (L1 := [some (.ref 4), some (.int x1), some (.int x2), some (.int x3), some (.int x4), some (.int x5)]) (S1 := [.int (-1)]) zd181_14 rfl rfl rfl ?_
          refine z_eri zd181_15 zr181 ?_
          show z_ev _ 0 1685 [some (.ref 0), some (.ref 4), some (.ref 19), some (.int 0)] [.int (-1)] _ _
          refine z_e1 (pc1 := 1686) (L1 := [some (.ref 0), some (.ref 4), some (.ref 19), some (.int 0)]) (S1 := [.ref 19, .int (-1)]) zd0_1685 rfl rfl rfl ?_
          refine z_e1 (pc1 := 1687) (L1 := [some (.ref 0), some (.ref 4), some (.ref 19), some (.int 0)]) (S1 := [.ref 0, .ref 19, .int (-1)]) zd0_1686 rfl rfl rfl ?_
          refine z_e1 (pc1 := 1688) (L1 := [some (.ref 0), some (.ref 4), some (.ref 19), some (.int 0)]) (S1 := [.int 0, .ref 0, .ref 19, .int (-1)]) zd0_1687 rfl rfl rfl ?_
          refine z_e1 (pc1 := 1689) (L1 := [some (.ref 0), some (.ref 4), some (.ref 19), some (.int 0)]) (S1 := [.int 1, .int 0, .ref 0, .ref 19, .int (-1)]) zd0_1688 rfl rfl rfl ?_
          refine z_e1 (pc1 := 1690) (L1 := [some (.ref 0), some (.ref 4), some (.ref 19), some (.int 0)]) (S1 := [.int 1, .ref 0, .ref 19, .int (-1)]) zd0_1689 rfl rfl rfl ?_
          refine z_eial (y := x1) zd0_1690 h0 (by decide) g1 ?_
          refine z_e1 (pc1 := 1692) (L1 := [some (.ref 0), some (.ref 4), some (.ref 19), some (.int 0)]) (S1 := [.ref 0, .int x1, .ref 19, .int (-1)]) zd0_1691 rfl rfl rfl ?_
          refine z_e1 (pc1 := 1693) (L1 := [some (.ref 0), some (.ref 4), some (.ref 19), some (.int 0)]) (S1 := [.int 0, .ref 0, .int x1, .ref 19, .int (-1)]) zd0_1692 rfl rfl rfl ?_
          refine z_e1 (pc1 := 1694) (L1 := [some (.ref 0), some (.ref 4), some (.ref 19), some (.int 0)]) (S1 := [.int 2, .int 0, .ref 0, .int x1, .ref 19, .int (-1)]) zd0_1693 rfl rfl rfl ?_
          refine z_e1 (pc1 := 1695) (L1 := [some (.ref 0), some (.ref 4), some (.ref 19), some (.int 0)]) (S1 := [.int 2, .ref 0, .int x1, .ref 19, .int (-1)]) zd0_1694 rfl rfl rfl ?_
          refine z_eial (y := x2) zd0_1695 h0 (by decide) g2 ?_
          refine z_e1 (pc1 := 1697) (L1 := [some (.ref 0), some (.ref 4), some (.ref 19), some (.int 0)]) (S1 := [.ref 0, .int x2, .int x1, .ref 19, .int (-1)]) zd0_1696 rfl rfl rfl ?_
          refine z_e1 (pc1 := 1698) (L1 := [some (.ref 0), some (.ref 4), some (.ref 19), some (.int 0)]) (S1 := [.int 0, .ref 0, .int x2, .int x1, .ref 19, .int (-1)]) zd0_1697 rfl rfl rfl ?_
          refine z_e1 (pc1 := 1699) (L1 := [some (.ref 0), some (.ref 4), some (.ref 19), some (.int 0)]) (S1 := [.int 3, .int 0, .ref 0, .int x2, .int x1, .ref 19, .int (-1)]) zd0_1698 rfl rfl rfl ?_
          refine z_e1 (pc1 := 1700) (L1 := [some (.ref 0), some (.ref 4), some (.ref 19), some (.int 0)]) (S1 := [.int 3, .ref 0, .int x2, .int x1, .ref 19, .int (-1)]) zd0_1699 rfl rfl rfl ?_
          refine z_eial (y := x3) zd0_1700 h0 (by decide) g3 ?_
          refine z_e1 (pc1 := 1702) (L1 := [some (.ref 0), some (.ref 4), some (.ref 19), some (.int 0)]) (S1 := [.ref 0, .int x3, .int x2, .int x1, .ref 19, .int (-1)]) zd0_1701 rfl rfl rfl ?_
          refine z_e1 (pc1 := 1703) (L1 := [some (.ref 0), some (.ref 4), some (.ref 19), some (.int 0)]) (S1 := [.int 0, .ref 0, .int x3, .int x2, .int x1, .ref 19, .int (-1)]) zd0_1702 rfl rfl rfl ?_
          refine z_e1 (pc1 := 1704) (L1 := [some (.ref 0), some (.ref 4), some (.ref 19), some (.int 0)]) (S1 := [.int 4, .int 0, .ref 0, .int x3, .int x2, .int x1, .ref 19, .int (-1)]) zd0_1703 rfl rfl rfl ?_
          refine z_e1 (pc1 := 1705) (L1 := [some (.ref 0), some (.ref 4), some (.ref 19), some (.int 0)]) (S1 := [.int 4, .ref 0, .int x3, .int x2, .int x1, .ref 19, .int (-1)]) zd0_1704 rfl rfl rfl ?_
          refine z_eial (y := x4) zd0_1705 h0 (by decide) g4 ?_
          refine z_e1 (pc1 := 1707) (L1 := [some (.ref 0), some (.ref 4), some (.ref 19), some (.int 0)]) (S1 := [.ref 0, .int x4, .int x3, .int x2, .int x1, .ref 19, .int (-1)]) zd0_1706 rfl rfl rfl ?_
          refine z_e1 (pc1 := 1708) (L1 := [some (.ref 0), some (.ref 4), some (.ref 19), some (.int 0)]) (S1 := [.int 0, .ref 0, .int x4, .int x3, .int x2, .int x1, .ref 19, .int (-1)]) zd0_1707 rfl rfl rfl ?_
          refine z_e1 (pc1 := 1709) (L1 := [some (.ref 0), some (.ref 4), some (.ref 19), some (.int 0)]) (S1 := [.int 5, .int 0, .ref 0, .int x4, .int x3, .int x2, .int x1, .ref 19, .int (-1)]) zd0_1708 rfl rfl rfl ?_
          refine z_e1 (pc1 := 1710) (L1 := [some (.ref 0), some (.ref 4), some (.ref 19), some (.int 0)]) (S1 := [.int 5, .ref 0, .int x4, .int x3, .int x2, .int x1, .ref 19, .int (-1)]) zd0_1709 rfl rfl rfl ?_
          refine z_eial (y := x5) zd0_1710 h0 (by decide) g5 ?_
          refine z_ecV (vs := [.ref 19, .int x1, .int x2, .int x3, .int x4, .int x5]) (r := [.int (-1)]) (L2 := [some (.ref 19), some (.int x1), some (.int x2), some (.int x3), some (.int x4), some (.int x5), none]) zd0_1711 zcV0_166 (Or.inl rfl) rfl b19 (by decide) rfl rfl rfl (Nat.le_of_ble_eq_true rfl) zm290 (Nat.le_of_ble_eq_true rfl) rfl ?_
          refine z_e1 (pc1 := 1) (L1 := [some (.ref 19), some (.int x1), some (.int x2), some (.int x3), some (.int x4), some (.int x5), none]) (S1 := [.int x1]) zd290_0 rfl rfl rfl ?_
          refine z_ecS (vs := [.int x1]) (r := []) (L2 := [some (.int x1)]) zd290_1 zcS290_237 (Or.inl rfl) (Nat.le_of_ble_eq_true rfl) rfl rfl (Nat.le_of_ble_eq_true rfl) zm225 (Nat.le_of_ble_eq_true rfl) rfl ?_
          refine z_e1 (pc1 := 1) (L1 := [some (.int x1)]) (S1 := [.int x1]) zd225_0 rfl rfl rfl ?_
          refine z_e1 (pc1 := 2) (L1 := [some (.int x1)]) (S1 := [.long ((x1 : Int32).toInt64)]) zd225_1 rfl rfl rfl ?_
          refine z_e1 (pc1 := 3) (L1 := [some (.int x1)]) (S1 := [.long 0, .long ((x1 : Int32).toInt64)]) zd225_2 rfl rfl rfl ?_
          refine z_eld2 zd225_3 zl225_318 ?_
          refine z_ecS (vs := [.long ((x1 : Int32).toInt64), .long 0, .long 5]) (r := []) (L2 := [some (.long ((x1 : Int32).toInt64)), none, some (.long 0), none, some (.long 5), none]) zd225_6 zcS225_116 (Or.inl rfl) (Nat.le_of_ble_eq_true rfl) rfl rfl (Nat.le_of_ble_eq_true rfl) zm189 (Nat.le_of_ble_eq_true rfl) rfl ?_
          refine z_e1 (pc1 := 1) (L1 := [some (.long ((x1 : Int32).toInt64)), none, some (.long 0), none, some (.long 5), none]) (S1 := [.long ((x1 : Int32).toInt64)]) zd189_0 rfl rfl rfl ?_
          refine z_e1 (pc1 := 2) (L1 := [some (.long ((x1 : Int32).toInt64)), none, some (.long 0), none, some (.long 5), none]) (S1 := [.long 0, .long ((x1 : Int32).toInt64)]) zd189_1 rfl rfl rfl ?_
          refine z_e1 (pc1 := 3) (L1 := [some (.long ((x1 : Int32).toInt64)), none, some (.long 0), none, some (.long 5), none]) (S1 := [.int (lg_cmp ((x1 : Int32).toInt64) 0)]) zd189_2 rfl rfl rfl ?_
          refine z_ez (t := 17) (t2 := 6) zd189_3 rfl (z_b_ltl0 (k := 0) (by decide) (show ¬ x1.toInt < 0 from by omega)) ?_
          refine z_e1 (pc1 := 7) (L1 := [some (.long ((x1 : Int32).toInt64)), none, some (.long 0), none, some (.long 5), none]) (S1 := [.long ((x1 : Int32).toInt64)]) zd189_6 rfl rfl rfl ?_
          refine z_e1 (pc1 := 9) (L1 := [some (.long ((x1 : Int32).toInt64)), none, some (.long 0), none, some (.long 5), none]) (S1 := [.long 5, .long ((x1 : Int32).toInt64)]) zd189_7 rfl rfl rfl ?_
          refine z_e1 (pc1 := 10) (L1 := [some (.long ((x1 : Int32).toInt64)), none, some (.long 0), none, some (.long 5), none]) (S1 := [.int (lg_cmp ((x1 : Int32).toInt64) 5)]) zd189_9 rfl rfl rfl ?_
          refine z_ez (t := 17) (t2 := 13) zd189_10 rfl (z_b_gtl0 (k := 5) (by decide) (show ¬ 5 < x1.toInt from by omega)) ?_
          refine z_e1 (pc1 := 14) (L1 := [some (.long ((x1 : Int32).toInt64)), none, some (.long 0), none, some (.long 5), none]) (S1 := [.int 1]) zd189_13 rfl rfl rfl ?_
          refine z_e1 (pc1 := 18) (L1 := [some (.long ((x1 : Int32).toInt64)), none, some (.long 0), none, some (.long 5), none]) (S1 := [.int 1]) zd189_14 rfl rfl rfl ?_
          refine z_erz zd189_18 zr189 (by decide) ?_
          show z_ev _ 225 9 [some (.int x1)] [.int 1] _ _
          refine z_erz zd225_9 zr225 (by decide) ?_
          show z_ev _ 290 4 [some (.ref 19), some (.int x1), some (.int x2), some (.int x3), some (.int x4), some (.int x5), none] [.int 1] _ _
          refine z_ez (t := 14) (t2 := 7) zd290_4 rfl rfl ?_
          refine z_e1 (pc1 := 8) (L1 := [some (.ref 19), some (.int x1), some (.int x2), some (.int x3), some (.int x4), some (.int x5), none]) (S1 := [.int x3]) zd290_7 rfl rfl rfl ?_
          refine z_ecS (vs := [.int x3]) (r := []) (L2 := [some (.int x3)]) zd290_8 zcS290_237 (Or.inl rfl) (Nat.le_of_ble_eq_true rfl) rfl rfl (Nat.le_of_ble_eq_true rfl) zm225 (Nat.le_of_ble_eq_true rfl) rfl ?_
          refine z_e1 (pc1 := 1) (L1 := [some (.int x3)]) (S1 := [.int x3]) zd225_0 rfl rfl rfl ?_
          refine z_e1 (pc1 := 2) (L1 := [some (.int x3)]) (S1 := [.long ((x3 : Int32).toInt64)]) zd225_1 rfl rfl rfl ?_
          refine z_e1 (pc1 := 3) (L1 := [some (.int x3)]) (S1 := [.long 0, .long ((x3 : Int32).toInt64)]) zd225_2 rfl rfl rfl ?_
          refine z_eld2 zd225_3 zl225_318 ?_
          refine z_ecS (vs := [.long ((x3 : Int32).toInt64), .long 0, .long 5]) (r := []) (L2 := [some (.long ((x3 : Int32).toInt64)), none, some (.long 0), none, some (.long 5), none]) zd225_6 zcS225_116 (Or.inl rfl) (Nat.le_of_ble_eq_true rfl) rfl rfl (Nat.le_of_ble_eq_true rfl) zm189 (Nat.le_of_ble_eq_true rfl) rfl ?_
          refine z_e1 (pc1 := 1) (L1 := [some (.long ((x3 : Int32).toInt64)), none, some (.long 0), none, some (.long 5), none]) (S1 := [.long ((x3 : Int32).toInt64)]) zd189_0 rfl rfl rfl ?_
          refine z_e1 (pc1 := 2) (L1 := [some (.long ((x3 : Int32).toInt64)), none, some (.long 0), none, some (.long 5), none]) (S1 := [.long 0, .long ((x3 : Int32).toInt64)]) zd189_1 rfl rfl rfl ?_
          refine z_e1 (pc1 := 3) (L1 := [some (.long ((x3 : Int32).toInt64)), none, some (.long 0), none, some (.long 5), none]) (S1 := [.int (lg_cmp ((x3 : Int32).toInt64) 0)]) zd189_2 rfl rfl rfl ?_
          refine z_ez (t := 17) (t2 := 6) zd189_3 rfl (z_b_ltl0 (k := 0) (by decide) (show ¬ x3.toInt < 0 from by omega)) ?_
          refine z_e1 (pc1 := 7) (L1 := [some (.long ((x3 : Int32).toInt64)), none, some (.long 0), none, some (.long 5), none]) (S1 := [.long ((x3 : Int32).toInt64)]) zd189_6 rfl rfl rfl ?_
          refine z_e1 (pc1 := 9) (L1 := [some (.long ((x3 : Int32).toInt64)), none, some (.long 0), none, some (.long 5), none]) (S1 := [.long 5, .long ((x3 : Int32).toInt64)]) zd189_7 rfl rfl rfl ?_
          refine z_e1 (pc1 := 10) (L1 := [some (.long ((x3 : Int32).toInt64)), none, some (.long 0), none, some (.long 5), none]) (S1 := [.int (lg_cmp ((x3 : Int32).toInt64) 5)]) zd189_9 rfl rfl rfl ?_
          refine z_ez (t := 17) (t2 := 17) zd189_10 rfl (z_b_gtl1 (k := 5) (by decide) (show 5 < x3.toInt from by omega)) ?_
          refine z_e1 (pc1 := 18) (L1 := [some (.long ((x3 : Int32).toInt64)), none, some (.long 0), none, some (.long 5), none]) (S1 := [.int 0]) zd189_17 rfl rfl rfl ?_
          refine z_erz zd189_18 zr189 (by decide) ?_
          show z_ev _ 225 9 [some (.int x3)] [.int 0] _ _
          refine z_erz zd225_9 zr225 (by decide) ?_
          show z_ev _ 290 11 [some (.ref 19), some (.int x1), some (.int x2), some (.int x3), some (.int x4), some (.int x5), none] [.int 0] _ _
          refine z_ez (t := 16) (t2 := 14) zd290_11 rfl rfl ?_
          refine z_e1 (pc1 := 15) (L1 := [some (.ref 19), some (.int x1), some (.int x2), some (.int x3), some (.int x4), some (.int x5), none]) (S1 := [.int (-1)]) zd290_14 rfl rfl rfl ?_
          refine z_eri zd290_15 zr290 ?_
          show z_ev _ 0 1714 [some (.ref 0), some (.ref 4), some (.ref 19), some (.int 0)] [.int (-1), .int (-1)] _ _
          refine z_ej (t := 1775) (t2 := 1775) zd0_1714 rfl rfl ?_
          refine z_e1 (pc1 := 1778) (L1 := [some (.ref 0), some (.ref 4), some (.ref 19), some (.int 6)]) (S1 := []) zd0_1775 rfl rfl rfl ?_
          refine z_e1 (pc1 := 18) (L1 := [some (.ref 0), some (.ref 4), some (.ref 19), some (.int 6)]) (S1 := []) zd0_1778 rfl rfl rfl ?_
          refine z_e1 (pc1 := 19) (L1 := [some (.ref 0), some (.ref 4), some (.ref 19), some (.int 6)]) (S1 := [.int 6]) zd0_18 rfl rfl rfl ?_
          refine z_e1 (pc1 := 20) (L1 := [some (.ref 0), some (.ref 4), some (.ref 19), some (.int 6)]) (S1 := [.ref 0, .int 6]) zd0_19 rfl rfl rfl ?_
          refine z_ealn (y := 6) zd0_20 h0 rfl ?_
          refine z_e1 (pc1 := 23) (L1 := [some (.ref 0), some (.ref 4), some (.ref 19), some (.int 6)]) (S1 := [.int 6, .int 6, .int 6]) zd0_21 rfl rfl rfl ?_
          refine z_e1 (pc1 := 24) (L1 := [some (.ref 0), some (.ref 4), some (.ref 19), some (.int 6)]) (S1 := [.int 0, .int 6]) zd0_23 rfl rfl rfl ?_
          refine z_ej (t := 1781) (t2 := 1781) zd0_24 rfl rfl ?_
          refine z_e1 (pc1 := 1782) (L1 := [some (.ref 0), some (.ref 4), some (.ref 19), some (.int 6)]) (S1 := [.int 1]) zd0_1781 rfl rfl rfl ?_
          refine z_erz zd0_1782 zr0 (by decide) ?_
          exact z_K1i hN hS (by decide) (by decide)
    · refine z_ej (t := 14) (t2 := 14) zd58_7 rfl (z_b_gex0 (k := 6) (by decide) e2) ?_
      refine z_e1 (pc1 := 15) (L1 := [some (.int x1)]) (S1 := [.int 0]) zd58_14 rfl rfl rfl ?_
      refine z_erz zd58_15 zr58 (by decide) ?_
      show z_ev _ 181 4 [some (.ref 4), some (.int x1), some (.int x2), some (.int x3), some (.int x4), some (.int x5)] [.int 0] _ _
      refine z_ez (t := 14) (t2 := 14) zd181_4 rfl rfl ?_
      refine z_e1 (pc1 := 15) (L1 := [some (.ref 4), some (.int x1), some (.int x2), some (.int x3), some (.int x4), some (.int x5)]) (S1 := [.int (-1)]) zd181_14 rfl rfl rfl ?_
      refine z_eri zd181_15 zr181 ?_
      show z_ev _ 0 1685 [some (.ref 0), some (.ref 4), some (.ref 19), some (.int 0)] [.int (-1)] _ _
      refine z_e1 (pc1 := 1686) (L1 := [some (.ref 0), some (.ref 4), some (.ref 19), some (.int 0)]) (S1 := [.ref 19, .int (-1)]) zd0_1685 rfl rfl rfl ?_
      refine z_e1 (pc1 := 1687) (L1 := [some (.ref 0), some (.ref 4), some (.ref 19), some (.int 0)]) (S1 := [.ref 0, .ref 19, .int (-1)]) zd0_1686 rfl rfl rfl ?_
      refine z_e1 (pc1 := 1688) (L1 := [some (.ref 0), some (.ref 4), some (.ref 19), some (.int 0)]) (S1 := [.int 0, .ref 0, .ref 19, .int (-1)]) zd0_1687 rfl rfl rfl ?_
      refine z_e1 (pc1 := 1689) (L1 := [some (.ref 0), some (.ref 4), some (.ref 19), some (.int 0)]) (S1 := [.int 1, .int 0, .ref 0, .ref 19, .int (-1)]) zd0_1688 rfl rfl rfl ?_
      refine z_e1 (pc1 := 1690) (L1 := [some (.ref 0), some (.ref 4), some (.ref 19), some (.int 0)]) (S1 := [.int 1, .ref 0, .ref 19, .int (-1)]) zd0_1689 rfl rfl rfl ?_
      refine z_eial (y := x1) zd0_1690 h0 (by decide) g1 ?_
      refine z_e1 (pc1 := 1692) (L1 := [some (.ref 0), some (.ref 4), some (.ref 19), some (.int 0)]) (S1 := [.ref 0, .int x1, .ref 19, .int (-1)]) zd0_1691 rfl rfl rfl ?_
      refine z_e1 (pc1 := 1693) (L1 := [some (.ref 0), some (.ref 4), some (.ref 19), some (.int 0)]) (S1 := [.int 0, .ref 0, .int x1, .ref 19, .int (-1)]) zd0_1692 rfl rfl rfl ?_
      refine z_e1 (pc1 := 1694) (L1 := [some (.ref 0), some (.ref 4), some (.ref 19), some (.int 0)]) (S1 := [.int 2, .int 0, .ref 0, .int x1, .ref 19, .int (-1)]) zd0_1693 rfl rfl rfl ?_
      refine z_e1 (pc1 := 1695) (L1 := [some (.ref 0), some (.ref 4), some (.ref 19), some (.int 0)]) (S1 := [.int 2, .ref 0, .int x1, .ref 19, .int (-1)]) zd0_1694 rfl rfl rfl ?_
      refine z_eial (y := x2) zd0_1695 h0 (by decide) g2 ?_
      refine z_e1 (pc1 := 1697) (L1 := [some (.ref 0), some (.ref 4), some (.ref 19), some (.int 0)]) (S1 := [.ref 0, .int x2, .int x1, .ref 19, .int (-1)]) zd0_1696 rfl rfl rfl ?_
      refine z_e1 (pc1 := 1698) (L1 := [some (.ref 0), some (.ref 4), some (.ref 19), some (.int 0)]) (S1 := [.int 0, .ref 0, .int x2, .int x1, .ref 19, .int (-1)]) zd0_1697 rfl rfl rfl ?_
      refine z_e1 (pc1 := 1699) (L1 := [some (.ref 0), some (.ref 4), some (.ref 19), some (.int 0)]) (S1 := [.int 3, .int 0, .ref 0, .int x2, .int x1, .ref 19, .int (-1)]) zd0_1698 rfl rfl rfl ?_
      refine z_e1 (pc1 := 1700) (L1 := [some (.ref 0), some (.ref 4), some (.ref 19), some (.int 0)]) (S1 := [.int 3, .ref 0, .int x2, .int x1, .ref 19, .int (-1)]) zd0_1699 rfl rfl rfl ?_
      refine z_eial (y := x3) zd0_1700 h0 (by decide) g3 ?_
      refine z_e1 (pc1 := 1702) (L1 := [some (.ref 0), some (.ref 4), some (.ref 19), some (.int 0)]) (S1 := [.ref 0, .int x3, .int x2, .int x1, .ref 19, .int (-1)]) zd0_1701 rfl rfl rfl ?_
      refine z_e1 (pc1 := 1703) (L1 := [some (.ref 0), some (.ref 4), some (.ref 19), some (.int 0)]) (S1 := [.int 0, .ref 0, .int x3, .int x2, .int x1, .ref 19, .int (-1)]) zd0_1702 rfl rfl rfl ?_
      refine z_e1 (pc1 := 1704) (L1 := [some (.ref 0), some (.ref 4), some (.ref 19), some (.int 0)]) (S1 := [.int 4, .int 0, .ref 0, .int x3, .int x2, .int x1, .ref 19, .int (-1)]) zd0_1703 rfl rfl rfl ?_
      refine z_e1 (pc1 := 1705) (L1 := [some (.ref 0), some (.ref 4), some (.ref 19), some (.int 0)]) (S1 := [.int 4, .ref 0, .int x3, .int x2, .int x1, .ref 19, .int (-1)]) zd0_1704 rfl rfl rfl ?_
      refine z_eial (y := x4) zd0_1705 h0 (by decide) g4 ?_
      refine z_e1 (pc1 := 1707) (L1 := [some (.ref 0), some (.ref 4), some (.ref 19), some (.int 0)]) (S1 := [.ref 0, .int x4, .int x3, .int x2, .int x1, .ref 19, .int (-1)]) zd0_1706 rfl rfl rfl ?_
      refine z_e1 (pc1 := 1708) (L1 := [some (.ref 0), some (.ref 4), some (.ref 19), some (.int 0)]) (S1 := [.int 0, .ref 0, .int x4, .int x3, .int x2, .int x1, .ref 19, .int (-1)]) zd0_1707 rfl rfl rfl ?_
      refine z_e1 (pc1 := 1709) (L1 := [some (.ref 0), some (.ref 4), some (.ref 19), some (.int 0)]) (S1 := [.int 5, .int 0, .ref 0, .int x4, .int x3, .int x2, .int x1, .ref 19, .int (-1)]) zd0_1708 rfl rfl rfl ?_
      refine z_e1 (pc1 := 1710) (L1 := [some (.ref 0), some (.ref 4), some (.ref 19), some (.int 0)]) (S1 := [.int 5, .ref 0, .int x4, .int x3, .int x2, .int x1, .ref 19, .int (-1)]) zd0_1709 rfl rfl rfl ?_
      refine z_eial (y := x5) zd0_1710 h0 (by decide) g5 ?_
      refine z_ecV (vs := [.ref 19, .int x1, .int x2, .int x3, .int x4, .int x5]) (r := [.int (-1)]) (L2 := [some (.ref 19), some (.int x1), some (.int x2), some (.int x3), some (.int x4), some (.int x5), none]) zd0_1711 zcV0_166 (Or.inl rfl) rfl b19 (by decide) rfl rfl rfl (Nat.le_of_ble_eq_true rfl) zm290 (Nat.le_of_ble_eq_true rfl) rfl ?_
      refine z_e1 (pc1 := 1) (L1 := [some (.ref 19), some (.int x1), some (.int x2), some (.int x3), some (.int x4), some (.int x5), none]) (S1 := [.int x1]) zd290_0 rfl rfl rfl ?_
      refine z_ecS (vs := [.int x1]) (r := []) (L2 := [some (.int x1)]) zd290_1 zcS290_237 (Or.inl rfl) (Nat.le_of_ble_eq_true rfl) rfl rfl (Nat.le_of_ble_eq_true rfl) zm225 (Nat.le_of_ble_eq_true rfl) rfl ?_
      refine z_e1 (pc1 := 1) (L1 := [some (.int x1)]) (S1 := [.int x1]) zd225_0 rfl rfl rfl ?_
      refine z_e1 (pc1 := 2) (L1 := [some (.int x1)]) (S1 := [.long ((x1 : Int32).toInt64)]) zd225_1 rfl rfl rfl ?_
      refine z_e1 (pc1 := 3) (L1 := [some (.int x1)]) (S1 := [.long 0, .long ((x1 : Int32).toInt64)]) zd225_2 rfl rfl rfl ?_
      refine z_eld2 zd225_3 zl225_318 ?_
      refine z_ecS (vs := [.long ((x1 : Int32).toInt64), .long 0, .long 5]) (r := []) (L2 := [some (.long ((x1 : Int32).toInt64)), none, some (.long 0), none, some (.long 5), none]) zd225_6 zcS225_116 (Or.inl rfl) (Nat.le_of_ble_eq_true rfl) rfl rfl (Nat.le_of_ble_eq_true rfl) zm189 (Nat.le_of_ble_eq_true rfl) rfl ?_
      refine z_e1 (pc1 := 1) (L1 := [some (.long ((x1 : Int32).toInt64)), none, some (.long 0), none, some (.long 5), none]) (S1 := [.long ((x1 : Int32).toInt64)]) zd189_0 rfl rfl rfl ?_
      refine z_e1 (pc1 := 2) (L1 := [some (.long ((x1 : Int32).toInt64)), none, some (.long 0), none, some (.long 5), none]) (S1 := [.long 0, .long ((x1 : Int32).toInt64)]) zd189_1 rfl rfl rfl ?_
      refine z_e1 (pc1 := 3) (L1 := [some (.long ((x1 : Int32).toInt64)), none, some (.long 0), none, some (.long 5), none]) (S1 := [.int (lg_cmp ((x1 : Int32).toInt64) 0)]) zd189_2 rfl rfl rfl ?_
      refine z_ez (t := 17) (t2 := 6) zd189_3 rfl (z_b_ltl0 (k := 0) (by decide) (show ¬ x1.toInt < 0 from by omega)) ?_
      refine z_e1 (pc1 := 7) (L1 := [some (.long ((x1 : Int32).toInt64)), none, some (.long 0), none, some (.long 5), none]) (S1 := [.long ((x1 : Int32).toInt64)]) zd189_6 rfl rfl rfl ?_
      refine z_e1 (pc1 := 9) (L1 := [some (.long ((x1 : Int32).toInt64)), none, some (.long 0), none, some (.long 5), none]) (S1 := [.long 5, .long ((x1 : Int32).toInt64)]) zd189_7 rfl rfl rfl ?_
      refine z_e1 (pc1 := 10) (L1 := [some (.long ((x1 : Int32).toInt64)), none, some (.long 0), none, some (.long 5), none]) (S1 := [.int (lg_cmp ((x1 : Int32).toInt64) 5)]) zd189_9 rfl rfl rfl ?_
      refine z_ez (t := 17) (t2 := 17) zd189_10 rfl (z_b_gtl1 (k := 5) (by decide) (show 5 < x1.toInt from by omega)) ?_
      refine z_e1 (pc1 := 18) (L1 := [some (.long ((x1 : Int32).toInt64)), none, some (.long 0), none, some (.long 5), none]) (S1 := [.int 0]) zd189_17 rfl rfl rfl ?_
      refine z_erz zd189_18 zr189 (by decide) ?_
      show z_ev _ 225 9 [some (.int x1)] [.int 0] _ _
      refine z_erz zd225_9 zr225 (by decide) ?_
      show z_ev _ 290 4 [some (.ref 19), some (.int x1), some (.int x2), some (.int x3), some (.int x4), some (.int x5), none] [.int 0] _ _
      refine z_ez (t := 14) (t2 := 14) zd290_4 rfl rfl ?_
      refine z_e1 (pc1 := 15) (L1 := [some (.ref 19), some (.int x1), some (.int x2), some (.int x3), some (.int x4), some (.int x5), none]) (S1 := [.int (-1)]) zd290_14 rfl rfl rfl ?_
      refine z_eri zd290_15 zr290 ?_
      show z_ev _ 0 1714 [some (.ref 0), some (.ref 4), some (.ref 19), some (.int 0)] [.int (-1), .int (-1)] _ _
      refine z_ej (t := 1775) (t2 := 1775) zd0_1714 rfl rfl ?_
      refine z_e1 (pc1 := 1778) (L1 := [some (.ref 0), some (.ref 4), some (.ref 19), some (.int 6)]) (S1 := []) zd0_1775 rfl rfl rfl ?_
      refine z_e1 (pc1 := 18) (L1 := [some (.ref 0), some (.ref 4), some (.ref 19), some (.int 6)]) (S1 := []) zd0_1778 rfl rfl rfl ?_
      refine z_e1 (pc1 := 19) (L1 := [some (.ref 0), some (.ref 4), some (.ref 19), some (.int 6)]) (S1 := [.int 6]) zd0_18 rfl rfl rfl ?_
      refine z_e1 (pc1 := 20) (L1 := [some (.ref 0), some (.ref 4), some (.ref 19), some (.int 6)]) (S1 := [.ref 0, .int 6]) zd0_19 rfl rfl rfl ?_
      refine z_ealn (y := 6) zd0_20 h0 rfl ?_
      refine z_e1 (pc1 := 23) (L1 := [some (.ref 0), some (.ref 4), some (.ref 19), some (.int 6)]) (S1 := [.int 6, .int 6, .int 6]) zd0_21 rfl rfl rfl ?_
      refine z_e1 (pc1 := 24) (L1 := [some (.ref 0), some (.ref 4), some (.ref 19), some (.int 6)]) (S1 := [.int 0, .int 6]) zd0_23 rfl rfl rfl ?_
      refine z_ej (t := 1781) (t2 := 1781) zd0_24 rfl rfl ?_
      refine z_e1 (pc1 := 1782) (L1 := [some (.ref 0), some (.ref 4), some (.ref 19), some (.int 6)]) (S1 := [.int 1]) zd0_1781 rfl rfl rfl ?_
      refine z_erz zd0_1782 zr0 (by decide) ?_
      exact z_K1i hN hS (by decide) (by decide)
