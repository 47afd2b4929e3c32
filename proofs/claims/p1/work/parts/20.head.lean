/-! the law around the calls -/
theorem z_L0 {M : zH} {xs : Nat → Int32} (h0 : M[0]? = some (.inl (0, 0, .inl xs))) (hN : M.length = 53) (hS : z_sz M ≤ 50000) (hB : z_fr M 4 53) (hT : z_kt3 (M[3]?) = true) : z_ev 2047 0 18 [some (.ref 0), some (.ref 4), some (.ref 19), some (.int 0)] [] M z_K1 := by
  refine z_e1 (pc1 := 19) (L1 := [some (.ref 0), some (.ref 4), some (.ref 19), some (.int 0)]) (S1 := [.int 0]) zd0_18 rfl rfl rfl ?_
  refine z_e1 (pc1 := 20) (L1 := [some (.ref 0), some (.ref 4), some (.ref 19), some (.int 0)]) (S1 := [.ref 0, .int 0]) zd0_19 rfl rfl rfl ?_
  refine z_ealn (y := 0) zd0_20 h0 rfl ?_
  refine z_e1 (pc1 := 23) (L1 := [some (.ref 0), some (.ref 4), some (.ref 19), some (.int 0)]) (S1 := [.int 6, .int 0, .int 0]) zd0_21 rfl rfl rfl ?_
  refine z_e1 (pc1 := 24) (L1 := [some (.ref 0), some (.ref 4), some (.ref 19), some (.int 0)]) (S1 := [.int (-6), .int 0]) zd0_23 rfl rfl rfl ?_
  refine z_ej (t := 1781) (t2 := 1781) zd0_24 rfl rfl ?_
  refine z_e1 (pc1 := 1782) (L1 := [some (.ref 0), some (.ref 4), some (.ref 19), some (.int 0)]) (S1 := [.int 1]) zd0_1781 rfl rfl rfl ?_
  refine z_erz zd0_1782 zr0 (by decide) ?_
  exact z_K1i hN hS (by decide) (by decide)
theorem z_L1 {M : zH} {xs : Nat → Int32} (h0 : M[0]? = some (.inl (0, 1, .inl xs))) (hN : M.length = 53) (hS : z_sz M ≤ 50000) (hB : z_fr M 4 53) (hT : z_kt3 (M[3]?) = true) : z_ev 2047 0 18 [some (.ref 0), some (.ref 4), some (.ref 19), some (.int 0)] [] M z_K1 := by
  refine z_e1 (pc1 := 19) (L1 := [some (.ref 0), some (.ref 4), some (.ref 19), some (.int 0)]) (S1 := [.int 0]) zd0_18 rfl rfl rfl ?_
  refine z_e1 (pc1 := 20) (L1 := [some (.ref 0), some (.ref 4), some (.ref 19), some (.int 0)]) (S1 := [.ref 0, .int 0]) zd0_19 rfl rfl rfl ?_
  refine z_ealn (y := 1) zd0_20 h0 rfl ?_
  refine z_e1 (pc1 := 23) (L1 := [some (.ref 0), some (.ref 4), some (.ref 19), some (.int 0)]) (S1 := [.int 6, .int 1, .int 0]) zd0_21 rfl rfl rfl ?_
  refine z_e1 (pc1 := 24) (L1 := [some (.ref 0), some (.ref 4), some (.ref 19), some (.int 0)]) (S1 := [.int (-5), .int 0]) zd0_23 rfl rfl rfl ?_
  refine z_ej (t := 1781) (t2 := 1781) zd0_24 rfl rfl ?_
  refine z_e1 (pc1 := 1782) (L1 := [some (.ref 0), some (.ref 4), some (.ref 19), some (.int 0)]) (S1 := [.int 1]) zd0_1781 rfl rfl rfl ?_
  refine z_erz zd0_1782 zr0 (by decide) ?_
  exact z_K1i hN hS (by decide) (by decide)
theorem z_L2 {M : zH} {xs : Nat → Int32} (h0 : M[0]? = some (.inl (0, 2, .inl xs))) (hN : M.length = 53) (hS : z_sz M ≤ 50000) (hB : z_fr M 4 53) (hT : z_kt3 (M[3]?) = true) : z_ev 2047 0 18 [some (.ref 0), some (.ref 4), some (.ref 19), some (.int 0)] [] M z_K1 := by
  refine z_e1 (pc1 := 19) (L1 := [some (.ref 0), some (.ref 4), some (.ref 19), some (.int 0)]) (S1 := [.int 0]) zd0_18 rfl rfl rfl ?_
  refine z_e1 (pc1 := 20) (L1 := [some (.ref 0), some (.ref 4), some (.ref 19), some (.int 0)]) (S1 := [.ref 0, .int 0]) zd0_19 rfl rfl rfl ?_
  refine z_ealn (y := 2) zd0_20 h0 rfl ?_
  refine z_e1 (pc1 := 23) (L1 := [some (.ref 0), some (.ref 4), some (.ref 19), some (.int 0)]) (S1 := [.int 6, .int 2, .int 0]) zd0_21 rfl rfl rfl ?_
  refine z_e1 (pc1 := 24) (L1 := [some (.ref 0), some (.ref 4), some (.ref 19), some (.int 0)]) (S1 := [.int (-4), .int 0]) zd0_23 rfl rfl rfl ?_
  refine z_ej (t := 1781) (t2 := 1781) zd0_24 rfl rfl ?_
  refine z_e1 (pc1 := 1782) (L1 := [some (.ref 0), some (.ref 4), some (.ref 19), some (.int 0)]) (S1 := [.int 1]) zd0_1781 rfl rfl rfl ?_
  refine z_erz zd0_1782 zr0 (by decide) ?_
  exact z_K1i hN hS (by decide) (by decide)
theorem z_L3 {M : zH} {xs : Nat → Int32} (h0 : M[0]? = some (.inl (0, 3, .inl xs))) (hN : M.length = 53) (hS : z_sz M ≤ 50000) (hB : z_fr M 4 53) (hT : z_kt3 (M[3]?) = true) : z_ev 2047 0 18 [some (.ref 0), some (.ref 4), some (.ref 19), some (.int 0)] [] M z_K1 := by
  refine z_e1 (pc1 := 19) (L1 := [some (.ref 0), some (.ref 4), some (.ref 19), some (.int 0)]) (S1 := [.int 0]) zd0_18 rfl rfl rfl ?_
  refine z_e1 (pc1 := 20) (L1 := [some (.ref 0), some (.ref 4), some (.ref 19), some (.int 0)]) (S1 := [.ref 0, .int 0]) zd0_19 rfl rfl rfl ?_
  refine z_ealn (y := 3) zd0_20 h0 rfl ?_
  refine z_e1 (pc1 := 23) (L1 := [some (.ref 0), some (.ref 4), some (.ref 19), some (.int 0)]) (S1 := [.int 6, .int 3, .int 0]) zd0_21 rfl rfl rfl ?_
  refine z_e1 (pc1 := 24) (L1 := [some (.ref 0), some (.ref 4), some (.ref 19), some (.int 0)]) (S1 := [.int (-3), .int 0]) zd0_23 rfl rfl rfl ?_
  refine z_ej (t := 1781) (t2 := 1781) zd0_24 rfl rfl ?_
  refine z_e1 (pc1 := 1782) (L1 := [some (.ref 0), some (.ref 4), some (.ref 19), some (.int 0)]) (S1 := [.int 1]) zd0_1781 rfl rfl rfl ?_
  refine z_erz zd0_1782 zr0 (by decide) ?_
  exact z_K1i hN hS (by decide) (by decide)
theorem z_L4 {M : zH} {xs : Nat → Int32} (h0 : M[0]? = some (.inl (0, 4, .inl xs))) (hN : M.length = 53) (hS : z_sz M ≤ 50000) (hB : z_fr M 4 53) (hT : z_kt3 (M[3]?) = true) : z_ev 2047 0 18 [some (.ref 0), some (.ref 4), some (.ref 19), some (.int 0)] [] M z_K1 := by
  refine z_e1 (pc1 := 19) (L1 := [some (.ref 0), some (.ref 4), some (.ref 19), some (.int 0)]) (S1 := [.int 0]) zd0_18 rfl rfl rfl ?_
  refine z_e1 (pc1 := 20) (L1 := [some (.ref 0), some (.ref 4), some (.ref 19), some (.int 0)]) (S1 := [.ref 0, .int 0]) zd0_19 rfl rfl rfl ?_
  refine z_ealn (y := 4) zd0_20 h0 rfl ?_
  refine z_e1 (pc1 := 23) (L1 := [some (.ref 0), some (.ref 4), some (.ref 19), some (.int 0)]) (S1 := [.int 6, .int 4, .int 0]) zd0_21 rfl rfl rfl ?_
  refine z_e1 (pc1 := 24) (L1 := [some (.ref 0), some (.ref 4), some (.ref 19), some (.int 0)]) (S1 := [.int (-2), .int 0]) zd0_23 rfl rfl rfl ?_
  refine z_ej (t := 1781) (t2 := 1781) zd0_24 rfl rfl ?_
  refine z_e1 (pc1 := 1782) (L1 := [some (.ref 0), some (.ref 4), some (.ref 19), some (.int 0)]) (S1 := [.int 1]) zd0_1781 rfl rfl rfl ?_
  refine z_erz zd0_1782 zr0 (by decide) ?_
  exact z_K1i hN hS (by decide) (by decide)
theorem z_L5 {M : zH} {xs : Nat → Int32} (h0 : M[0]? = some (.inl (0, 5, .inl xs))) (hN : M.length = 53) (hS : z_sz M ≤ 50000) (hB : z_fr M 4 53) (hT : z_kt3 (M[3]?) = true) : z_ev 2047 0 18 [some (.ref 0), some (.ref 4), some (.ref 19), some (.int 0)] [] M z_K1 := by
  refine z_e1 (pc1 := 19) (L1 := [some (.ref 0), some (.ref 4), some (.ref 19), some (.int 0)]) (S1 := [.int 0]) zd0_18 rfl rfl rfl ?_
  refine z_e1 (pc1 := 20) (L1 := [some (.ref 0), some (.ref 4), some (.ref 19), some (.int 0)]) (S1 := [.ref 0, .int 0]) zd0_19 rfl rfl rfl ?_
  refine z_ealn (y := 5) zd0_20 h0 rfl ?_
  refine z_e1 (pc1 := 23) (L1 := [some (.ref 0), some (.ref 4), some (.ref 19), some (.int 0)]) (S1 := [.int 6, .int 5, .int 0]) zd0_21 rfl rfl rfl ?_
  refine z_e1 (pc1 := 24) (L1 := [some (.ref 0), some (.ref 4), some (.ref 19), some (.int 0)]) (S1 := [.int (-1), .int 0]) zd0_23 rfl rfl rfl ?_
  refine z_ej (t := 1781) (t2 := 1781) zd0_24 rfl rfl ?_
  refine z_e1 (pc1 := 1782) (L1 := [some (.ref 0), some (.ref 4), some (.ref 19), some (.int 0)]) (S1 := [.int 1]) zd0_1781 rfl rfl rfl ?_
  refine z_erz zd0_1782 zr0 (by decide) ?_
  exact z_K1i hN hS (by decide) (by decide)
theorem z_L6 {M : zH} {xs : Nat → Int32} (h0 : M[0]? = some (.inl (0, 6, .inl xs))) (hN : M.length = 53) (hS : z_sz M ≤ 50000) (hB : z_fr M 4 53) (hT : z_kt3 (M[3]?) = true) : z_ev 2047 0 18 [some (.ref 0), some (.ref 4), some (.ref 19), some (.int 0)] [] M z_K1 := by
  obtain ⟨x0, g0⟩ : ∃ x0, xs 0 = x0 := ⟨_, rfl⟩
  refine z_e1 (pc1 := 19) (L1 := [some (.ref 0), some (.ref 4), some (.ref 19), some (.int 0)]) (S1 := [.int 0]) zd0_18 rfl rfl rfl ?_
  refine z_e1 (pc1 := 20) (L1 := [some (.ref 0), some (.ref 4), some (.ref 19), some (.int 0)]) (S1 := [.ref 0, .int 0]) zd0_19 rfl rfl rfl ?_
  refine z_ealn (y := 6) zd0_20 h0 rfl ?_
  refine z_e1 (pc1 := 23) (L1 := [some (.ref 0), some (.ref 4), some (.ref 19), some (.int 0)]) (S1 := [.int 6, .int 6, .int 0]) zd0_21 rfl rfl rfl ?_
  refine z_e1 (pc1 := 24) (L1 := [some (.ref 0), some (.ref 4), some (.ref 19), some (.int 0)]) (S1 := [.int 0, .int 0]) zd0_23 rfl rfl rfl ?_
  refine z_ej (t := 1781) (t2 := 27) zd0_24 rfl rfl ?_
  refine z_e1 (pc1 := 28) (L1 := [some (.ref 0), some (.ref 4), some (.ref 19), some (.int 0)]) (S1 := [.ref 0]) zd0_27 rfl rfl rfl ?_
  refine z_e1 (pc1 := 29) (L1 := [some (.ref 0), some (.ref 4), some (.ref 19), some (.int 0)]) (S1 := [.int 0, .ref 0]) zd0_28 rfl rfl rfl ?_
  refine z_eial (y := x0) zd0_29 h0 (by decide) g0 ?_
  refine z_e1 (pc1 := 32) (L1 := [some (.ref 0), some (.ref 4), some (.ref 19), some (.int 0)]) (S1 := [.int 63, .int x0]) zd0_30 rfl rfl rfl ?_
  refine z_e1 (pc1 := 33) (L1 := [some (.ref 0), some (.ref 4), some (.ref 19), some (.int 0)]) (S1 := [.int (x0 &&& 63)]) zd0_32 rfl rfl rfl ?_
  generalize ((x0 &&& 63) : Int32) = s1
  by_cases e2 : s1.toInt = 0
  · obtain rfl := z_sub (k := 0) e2 (by decide)
    refine z_e1 (pc1 := 200) (L1 := [some (.ref 0), some (.ref 4), some (.ref 19), some (.int 0)]) (S1 := []) zd0_33 rfl rfl rfl ?_
    exact z_C0 h0 hN hS hB hT rfl rfl rfl rfl rfl
  · skip
    by_cases e3 : s1.toInt = 1
    · obtain rfl := z_sub (k := 1) e3 (by decide)
      refine z_e1 (pc1 := 233) (L1 := [some (.ref 0), some (.ref 4), some (.ref 19), some (.int 0)]) (S1 := []) zd0_33 rfl rfl rfl ?_
      exact z_C1 h0 hN hS hB hT rfl rfl rfl rfl rfl
    · skip
      by_cases e4 : s1.toInt = 2
      · obtain rfl := z_sub (k := 2) e4 (by decide)
        refine z_e1 (pc1 := 246) (L1 := [some (.ref 0), some (.ref 4), some (.ref 19), some (.int 0)]) (S1 := []) zd0_33 rfl rfl rfl ?_
        exact z_C2 h0 hN hS hB hT rfl rfl rfl rfl rfl
      · skip
        by_cases e5 : s1.toInt = 3
        · obtain rfl := z_sub (k := 3) e5 (by decide)
          refine z_e1 (pc1 := 279) (L1 := [some (.ref 0), some (.ref 4), some (.ref 19), some (.int 0)]) (S1 := []) zd0_33 rfl rfl rfl ?_
          exact z_C3 h0 hN hS hB hT rfl rfl rfl rfl rfl
        · skip
          by_cases e6 : s1.toInt = 4
          · obtain rfl := z_sub (k := 4) e6 (by decide)
            refine z_e1 (pc1 := 312) (L1 := [some (.ref 0), some (.ref 4), some (.ref 19), some (.int 0)]) (S1 := []) zd0_33 rfl rfl rfl ?_
            exact z_C4 h0 hN hS hB hT rfl rfl rfl rfl rfl
          · skip
            by_cases e7 : s1.toInt = 5
            · obtain rfl := z_sub (k := 5) e7 (by decide)
              refine z_e1 (pc1 := 345) (L1 := [some (.ref 0), some (.ref 4), some (.ref 19), some (.int 0)]) (S1 := []) zd0_33 rfl rfl rfl ?_
              exact z_C5 h0 hN hS hB hT rfl rfl rfl rfl rfl
            · skip
              by_cases e8 : s1.toInt = 6
              · obtain rfl := z_sub (k := 6) e8 (by decide)
                refine z_e1 (pc1 := 388) (L1 := [some (.ref 0), some (.ref 4), some (.ref 19), some (.int 0)]) (S1 := []) zd0_33 rfl rfl rfl ?_
                exact z_C6 h0 hN hS hB hT rfl rfl rfl rfl rfl
              · skip
                by_cases e9 : s1.toInt = 7
                · obtain rfl := z_sub (k := 7) e9 (by decide)
                  refine z_e1 (pc1 := 441) (L1 := [some (.ref 0), some (.ref 4), some (.ref 19), some (.int 0)]) (S1 := []) zd0_33 rfl rfl rfl ?_
                  exact z_C7 h0 hN hS hB hT rfl rfl rfl rfl rfl
                · skip
                  by_cases e10 : s1.toInt = 8
                  · obtain rfl := z_sub (k := 8) e10 (by decide)
                    refine z_e1 (pc1 := 484) (L1 := [some (.ref 0), some (.ref 4), some (.ref 19), some (.int 0)]) (S1 := []) zd0_33 rfl rfl rfl ?_
                    exact z_C8 h0 hN hS hB hT rfl rfl rfl rfl rfl
                  · skip
                    by_cases e11 : s1.toInt = 9
                    · obtain rfl := z_sub (k := 9) e11 (by decide)
                      refine z_e1 (pc1 := 537) (L1 := [some (.ref 0), some (.ref 4), some (.ref 19), some (.int 0)]) (S1 := []) zd0_33 rfl rfl rfl ?_
                      exact z_C9 h0 hN hS hB hT rfl rfl rfl rfl rfl
                    · skip
                      by_cases e12 : s1.toInt = 10
                      · obtain rfl := z_sub (k := 10) e12 (by decide)
                        refine z_e1 (pc1 := 590) (L1 := [some (.ref 0), some (.ref 4), some (.ref 19), some (.int 0)]) (S1 := []) zd0_33 rfl rfl rfl ?_
                        exact z_C10 h0 hN hS hB hT rfl rfl rfl rfl rfl
                      · skip
                        by_cases e13 : s1.toInt = 11
                        · obtain rfl := z_sub (k := 11) e13 (by decide)
                          refine z_e1 (pc1 := 643) (L1 := [some (.ref 0), some (.ref 4), some (.ref 19), some (.int 0)]) (S1 := []) zd0_33 rfl rfl rfl ?_
                          exact z_C11 h0 hN hS hB hT rfl rfl rfl rfl rfl
                        · skip
                          by_cases e14 : s1.toInt = 12
                          · obtain rfl := z_sub (k := 12) e14 (by decide)
                            refine z_e1 (pc1 := 666) (L1 := [some (.ref 0), some (.ref 4), some (.ref 19), some (.int 0)]) (S1 := []) zd0_33 rfl rfl rfl ?_
                            exact z_C12 h0 hN hS hB hT rfl rfl rfl rfl rfl
                          · skip
                            by_cases e15 : s1.toInt = 13
                            · obtain rfl := z_sub (k := 13) e15 (by decide)
                              refine z_e1 (pc1 := 709) (L1 := [some (.ref 0), some (.ref 4), some (.ref 19), some (.int 0)]) (S1 := []) zd0_33 rfl rfl rfl ?_
                              exact z_C13 h0 hN hS hB hT rfl rfl rfl rfl rfl
                            · skip
                              by_cases e16 : s1.toInt = 14
                              · obtain rfl := z_sub (k := 14) e16 (by decide)
                                refine z_e1 (pc1 := 752) (L1 := [some (.ref 0), some (.ref 4), some (.ref 19), some (.int 0)]) (S1 := []) zd0_33 rfl rfl rfl ?_
                                exact z_C14 h0 hN hS hB hT rfl rfl rfl rfl rfl
                              · skip
                                by_cases e17 : s1.toInt = 15
                                · obtain rfl := z_sub (k := 15) e17 (by decide)
                                  refine z_e1 (pc1 := 785) (L1 := [some (.ref 0), some (.ref 4), some (.ref 19), some (.int 0)]) (S1 := []) zd0_33 rfl rfl rfl ?_
                                  exact z_C15 h0 hN hS hB hT rfl rfl rfl rfl rfl
                                · skip
                                  by_cases e18 : s1.toInt = 16
                                  · obtain rfl := z_sub (k := 16) e18 (by decide)
                                    refine z_e1 (pc1 := 818) (L1 := [some (.ref 0), some (.ref 4), some (.ref 19), some (.int 0)]) (S1 := []) zd0_33 rfl rfl rfl ?_
                                    exact z_C16 h0 hN hS hB hT rfl rfl rfl rfl rfl
                                  · skip
                                    by_cases e19 : s1.toInt = 17
                                    · obtain rfl := z_sub (k := 17) e19 (by decide)
                                      refine z_e1 (pc1 := 861) (L1 := [some (.ref 0), some (.ref 4), some (.ref 19), some (.int 0)]) (S1 := []) zd0_33 rfl rfl rfl ?_
                                      exact z_C17 h0 hN hS hB hT rfl rfl rfl rfl rfl
                                    · skip
                                      by_cases e20 : s1.toInt = 18
                                      · obtain rfl := z_sub (k := 18) e20 (by decide)
                                        refine z_e1 (pc1 := 894) (L1 := [some (.ref 0), some (.ref 4), some (.ref 19), some (.int 0)]) (S1 := []) zd0_33 rfl rfl rfl ?_
                                        exact z_C18 h0 hN hS hB hT rfl rfl rfl rfl rfl
                                      · skip
                                        by_cases e21 : s1.toInt = 19
                                        · obtain rfl := z_sub (k := 19) e21 (by decide)
                                          refine z_e1 (pc1 := 937) (L1 := [some (.ref 0), some (.ref 4), some (.ref 19), some (.int 0)]) (S1 := []) zd0_33 rfl rfl rfl ?_
                                          exact z_C19 h0 hN hS hB hT rfl rfl rfl rfl rfl
                                        · skip
                                          by_cases e22 : s1.toInt = 20
                                          · obtain rfl := z_sub (k := 20) e22 (by decide)
                                            refine z_e1 (pc1 := 970) (L1 := [some (.ref 0), some (.ref 4), some (.ref 19), some (.int 0)]) (S1 := []) zd0_33 rfl rfl rfl ?_
                                            exact z_C20 h0 hN hS hB hT rfl rfl rfl rfl rfl
                                          · skip
                                            by_cases e23 : s1.toInt = 21
                                            · obtain rfl := z_sub (k := 21) e23 (by decide)
                                              refine z_e1 (pc1 := 1023) (L1 := [some (.ref 0), some (.ref 4), some (.ref 19), some (.int 0)]) (S1 := []) zd0_33 rfl rfl rfl ?_
                                              exact z_C21 h0 hN hS hB hT rfl rfl rfl rfl rfl
                                            · skip
                                              by_cases e24 : s1.toInt = 22
                                              · obtain rfl := z_sub (k := 22) e24 (by decide)
                                                refine z_e1 (pc1 := 1086) (L1 := [some (.ref 0), some (.ref 4), some (.ref 19), some (.int 0)]) (S1 := []) zd0_33 rfl rfl rfl ?_
                                                exact z_C22 h0 hN hS hB hT rfl rfl rfl rfl rfl
                                              · skip
                                                by_cases e25 : s1.toInt = 23
                                                · obtain rfl := z_sub (k := 23) e25 (by decide)
                                                  refine z_e1 (pc1 := 1139) (L1 := [some (.ref 0), some (.ref 4), some (.ref 19), some (.int 0)]) (S1 := []) zd0_33 rfl rfl rfl ?_
                                                  exact z_C23 h0 hN hS hB hT rfl rfl rfl rfl rfl
                                                · skip
                                                  by_cases e26 : s1.toInt = 24
                                                  · obtain rfl := z_sub (k := 24) e26 (by decide)
                                                    refine z_e1 (pc1 := 1182) (L1 := [some (.ref 0), some (.ref 4), some (.ref 19), some (.int 0)]) (S1 := []) zd0_33 rfl rfl rfl ?_
                                                    exact z_C24 h0 hN hS hB hT rfl rfl rfl rfl rfl
                                                  · skip
                                                    by_cases e27 : s1.toInt = 25
                                                    · obtain rfl := z_sub (k := 25) e27 (by decide)
                                                      refine z_e1 (pc1 := 1225) (L1 := [some (.ref 0), some (.ref 4), some (.ref 19), some (.int 0)]) (S1 := []) zd0_33 rfl rfl rfl ?_
                                                      exact z_C25 h0 hN hS hB hT rfl rfl rfl rfl rfl
                                                    · skip
                                                      by_cases e28 : s1.toInt = 26
                                                      · obtain rfl := z_sub (k := 26) e28 (by decide)
                                                        refine z_e1 (pc1 := 1278) (L1 := [some (.ref 0), some (.ref 4), some (.ref 19), some (.int 0)]) (S1 := []) zd0_33 rfl rfl rfl ?_
                                                        exact z_C26 h0 hN hS hB hT rfl rfl rfl rfl rfl
                                                      · skip
                                                        by_cases e29 : s1.toInt = 27
                                                        · obtain rfl := z_sub (k := 27) e29 (by decide)
                                                          refine z_e1 (pc1 := 1321) (L1 := [some (.ref 0), some (.ref 4), some (.ref 19), some (.int 0)]) (S1 := []) zd0_33 rfl rfl rfl ?_
                                                          exact z_C27 h0 hN hS hB hT rfl rfl rfl rfl rfl
                                                        · skip
                                                          by_cases e30 : s1.toInt = 28
                                                          · obtain rfl := z_sub (k := 28) e30 (by decide)
                                                            refine z_e1 (pc1 := 1364) (L1 := [some (.ref 0), some (.ref 4), some (.ref 19), some (.int 0)]) (S1 := []) zd0_33 rfl rfl rfl ?_
                                                            exact z_C28 h0 hN hS hB hT rfl rfl rfl rfl rfl
                                                          · skip
                                                            by_cases e31 : s1.toInt = 29
                                                            · obtain rfl := z_sub (k := 29) e31 (by decide)
                                                              refine z_e1 (pc1 := 1407) (L1 := [some (.ref 0), some (.ref 4), some (.ref 19), some (.int 0)]) (S1 := []) zd0_33 rfl rfl rfl ?_
                                                              exact z_C29 h0 hN hS hB hT rfl rfl rfl rfl rfl
                                                            · skip
                                                              by_cases e32 : s1.toInt = 30
                                                              · obtain rfl := z_sub (k := 30) e32 (by decide)
                                                                refine z_e1 (pc1 := 1450) (L1 := [some (.ref 0), some (.ref 4), some (.ref 19), some (.int 0)]) (S1 := []) zd0_33 rfl rfl rfl ?_
                                                                exact z_C30 h0 hN hS hB hT rfl rfl rfl rfl rfl
                                                              · skip
                                                                by_cases e33 : s1.toInt = 31
                                                                · obtain rfl := z_sub (k := 31) e33 (by decide)
                                                                  refine z_e1 (pc1 := 1473) (L1 := [some (.ref 0), some (.ref 4), some (.ref 19), some (.int 0)]) (S1 := []) zd0_33 rfl rfl rfl ?_
                                                                  exact z_C31 h0 hN hS hB hT rfl rfl rfl rfl rfl
                                                                · skip
                                                                  by_cases e34 : s1.toInt = 32
                                                                  · obtain rfl := z_sub (k := 32) e34 (by decide)
                                                                    refine z_e1 (pc1 := 1506) (L1 := [some (.ref 0), some (.ref 4), some (.ref 19), some (.int 0)]) (S1 := []) zd0_33 rfl rfl rfl ?_
                                                                    exact z_C32 h0 hN hS hB hT rfl rfl rfl rfl rfl
                                                                  · skip
                                                                    by_cases e35 : s1.toInt = 33
                                                                    · obtain rfl := z_sub (k := 33) e35 (by decide)
                                                                      refine z_e1 (pc1 := 1549) (L1 := [some (.ref 0), some (.ref 4), some (.ref 19), some (.int 0)]) (S1 := []) zd0_33 rfl rfl rfl ?_
                                                                      exact z_C33 h0 hN hS hB hT rfl rfl rfl rfl rfl
                                                                    · skip
                                                                      by_cases e36 : s1.toInt = 34
                                                                      · obtain rfl := z_sub (k := 34) e36 (by decide)
                                                                        refine z_e1 (pc1 := 1622) (L1 := [some (.ref 0), some (.ref 4), some (.ref 19), some (.int 0)]) (S1 := []) zd0_33 rfl rfl rfl ?_
                                                                        exact z_C34 h0 hN hS hB hT rfl rfl rfl rfl rfl
                                                                      · skip
                                                                        by_cases e37 : s1.toInt = 35
                                                                        · obtain rfl := z_sub (k := 35) e37 (by decide)
                                                                          refine z_e1 (pc1 := 1656) (L1 := [some (.ref 0), some (.ref 4), some (.ref 19), some (.int 0)]) (S1 := []) zd0_33 rfl rfl rfl ?_
                                                                          exact z_C35 h0 hN hS hB hT rfl rfl rfl rfl rfl
                                                                        · skip
                                                                          by_cases e38 : s1.toInt = 36
                                                                          · obtain rfl := z_sub (k := 36) e38 (by decide)
                                                                            refine z_e1 (pc1 := 1719) (L1 := [some (.ref 0), some (.ref 4), some (.ref 19), some (.int 0)]) (S1 := []) zd0_33 rfl rfl rfl ?_
                                                                            exact z_C36 h0 hN hS hB hT rfl rfl rfl rfl rfl
                                                                          · skip
                                                                            by_cases e39 : s1.toInt = 37
                                                                            · obtain rfl := z_sub (k := 37) e39 (by decide)
                                                                              refine z_e1 (pc1 := 1752) (L1 := [some (.ref 0), some (.ref 4), some (.ref 19), some (.int 0)]) (S1 := []) zd0_33 rfl rfl rfl ?_
                                                                              exact z_C37 h0 hN hS hB hT rfl rfl rfl rfl rfl
                                                                            · skip
                                                                              refine z_etd (t := 1775) zd0_33 rfl (by omega) ?_
                                                                              refine z_e1 (pc1 := 1778) (L1 := [some (.ref 0), some (.ref 4), some (.ref 19), some (.int 6)]) (S1 := []) zd0_1775 rfl rfl rfl ?_
                                                                              refine z_e1 (pc1 := 18) (L1 := [some (.ref 0), some (.ref 4), some (.ref 19), some (.int 6)]) (S1 := []) zd0_1778 rfl rfl rfl ?_
                                                                              refine z_e1 (pc1 := 19) (L1 := [some (.ref 0), some (.ref 4), some (.ref 19), some (.int 6)]) (S1 := [.int 6]) zd0_18 rfl rfl rfl ?_
                                                                              refine z_e1 (pc1 := 20) (L1 := [some (.ref 0), some (.ref 4), some (.ref 19), some (.int 6)]) (S1 := [.ref 0, .int 6]) zd0_19 rfl rfl rfl ?_
                                                                              refine z_ealn (y := 6) zd0_20 h0 rfl ?_
                                                                              refine z_e1 (pc1 := 23) (L1 := [some (.ref 0), some (.ref 4), some (.ref 19), some (.int 6)]) (S1 := [.int 6, .int 6, .int 6]) zd0_21 rfl rfl rfl ?_
                                                                              refine z_e1 (pc1 := 24) (L1 := [some (.ref 0), some (.ref 4), some (.ref 19), some (.int 6)]) (S1 := [.int 0, .int 6]) zd0_23 rfl rfl rfl ?_
                                                                              refine z_ej (t := 1781) (t2 := 1781) zd0_24 rfl rfl ?_
                                                                              refine z_e1 (pc1 := 1782) (L1 := [some (.ref 0), some (.ref 4), some (.ref 19), some (.int 6)]) (S1 := [.int 1]) zd0_1781 rfl rfl rfl ?_
                                                                              refine z_erz zd0_1782 zr0 (by decide) ?_
                                                                              exact z_K1i hN hS (by decide) (by decide)
theorem z_fin (L : Nat) (xs : Nat → Int32) (hL : L ≤ 6) : z_ev 2047 0 0 (z_ent [.ref 0] 4) [] (z_M0 L xs) z_K1 := by
  obtain ⟨A, B, hA, hAl, hB, hBl, hBs, hBf, hBt⟩ := z_fresh
  have e1 := z_indep (.inl (0, L, .inl xs)) _ _ _ _ _ _ _ _ _ (show (z_Mh ++ [.inr (0, z_blank 0)])[0]? = some z_hole from rfl) hA
  have e2 := z_indep (.inl (0, L, .inl xs)) _ _ _ _ _ _ _ _ _ (z_hp0 e1.2) hB
  rw [← z_hp e1.2] at e2
  have hNA : (A.set 0 (.inl (0, L, .inl xs))).length = 19 := by rw [List.length_set]; exact hAl
  have hNB : (B.set 0 (.inl (0, L, .inl xs))).length = 53 := by rw [List.length_set]; exact hBl
  have hSB : z_sz (B.set 0 (.inl (0, L, .inl xs))) ≤ 50000 := by
    match B, e2.2, hBs with
    | x :: r, _, hs =>
      have h1 : z_sz (x :: r) = z_cz x + z_sz r := rfl
      have h2 : z_sz ((x :: r).set 0 (.inl (0, L, .inl xs))) = z_cz (.inl (0, L, .inl xs)) + z_sz r := rfl
      have h3 : z_cz (.inl (0, L, .inl xs)) ≤ 100 := by simp only [z_cz]; omega
      omega
  have hFB : z_fr (B.set 0 (.inl (0, L, .inl xs))) 4 53 := fun k h1 h2 => by
    rw [List.getElem?_set_ne (by omega)]
    exact hBf k h1 h2
  have hTB : z_kt3 ((B.set 0 (.inl (0, L, .inl xs)))[3]?) = true := by
    rw [List.getElem?_set_ne (by decide)]
    exact hBt
  have h0B : (B.set 0 (.inl (0, L, .inl xs)))[0]? = some (.inl (0, L, .inl xs)) := z_gs1 e2.2
  show z_ev 2047 0 0 [some (.ref 0), none, none, none] [] (z_M0 L xs) z_K1
  refine z_enew (N := 4) (fs := z_blank 0) zd0_0 zn0_7 rfl rfl ?_
  refine z_e1 (pc1 := 4) (L1 := [some (.ref 0), none, none, none]) (S1 := [.ref 4, .ref 4]) zd0_3 rfl rfl rfl ?_
  refine z_ecI (vs := [.ref 4]) (r := [.ref 4]) (L2 := z_ent [.ref 4] (z_ml 1)) zd0_4 zcI0_9 (Or.inl rfl) rfl (z_gl rfl) (by decide) rfl rfl (Nat.le_of_ble_eq_true rfl) rfl (Nat.le_of_ble_eq_true rfl) rfl ?_
  refine ⟨_, none, _, e1.1, ?_⟩
  show z_ev _ 0 7 [some (.ref 0), none, none, none] [.ref 4] _ _
  refine z_e1 (pc1 := 8) (L1 := [some (.ref 0), some (.ref 4), none, none]) (S1 := []) zd0_7 rfl rfl rfl ?_
  refine z_enew (N := 19) (fs := z_blank 12) zd0_8 zn0_10 rfl hNA ?_
  refine z_e1 (pc1 := 12) (L1 := [some (.ref 0), some (.ref 4), none, none]) (S1 := [.ref 19, .ref 19]) zd0_11 rfl rfl rfl ?_
  refine z_ecI (vs := [.ref 19]) (r := [.ref 19]) (L2 := z_ent [.ref 19] (z_ml 187)) zd0_12 zcI0_12 (Or.inl rfl) rfl (z_gl hNA) (by decide) rfl rfl (Nat.le_of_ble_eq_true rfl) rfl (Nat.le_of_ble_eq_true rfl) rfl ?_
  refine ⟨_, none, _, e2.1, ?_⟩
  show z_ev _ 0 15 [some (.ref 0), some (.ref 4), none, none] [.ref 19] _ _
  refine z_e1 (pc1 := 16) (L1 := [some (.ref 0), some (.ref 4), some (.ref 19), none]) (S1 := []) zd0_15 rfl rfl rfl ?_
  refine z_e1 (pc1 := 17) (L1 := [some (.ref 0), some (.ref 4), some (.ref 19), none]) (S1 := [.int 0]) zd0_16 rfl rfl rfl ?_
  refine z_e1 (pc1 := 18) (L1 := [some (.ref 0), some (.ref 4), some (.ref 19), some (.int 0)]) (S1 := []) zd0_17 rfl rfl rfl ?_
  have hc : L = 0 ∨ L = 1 ∨ L = 2 ∨ L = 3 ∨ L = 4 ∨ L = 5 ∨ L = 6 := by omega
  rcases hc with rfl | rfl | rfl | rfl | rfl | rfl | rfl
  · exact z_L0 h0B hNB hSB hFB hTB
  · exact z_L1 h0B hNB hSB hFB hTB
  · exact z_L2 h0B hNB hSB hFB hTB
  · exact z_L3 h0B hNB hSB hFB hTB
  · exact z_L4 h0B hNB hSB hFB hTB
  · exact z_L5 h0B hNB hSB hFB hTB
  · exact z_L6 h0B hNB hSB hFB hTB
