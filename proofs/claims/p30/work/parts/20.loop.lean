/-! rows of the law itself -/
theorem zd0_18 : decode (z_b 0) 18 = .ok (.iload_n 3, 1) := by decide +kernel
theorem zd0_19 : decode (z_b 0) 19 = .ok (.aload_n 0, 1) := by decide +kernel
theorem zd0_20 : decode (z_b 0) 20 = .ok (.arraylength, 1) := by decide +kernel
theorem zd0_21 : decode (z_b 0) 21 = .ok (.bipush 6, 2) := by decide +kernel
theorem zd0_23 : decode (z_b 0) 23 = .ok (.isub, 1) := by decide +kernel
theorem zd0_24 : decode (z_b 0) 24 = .ok (.if_icmp .gt 1756, 3) := by decide +kernel
theorem zd0_1780 : decode (z_b 0) 1780 = .ok (.iconst 1, 1) := by decide +kernel
theorem zr0 : z_rt 0 = (some .boolean) := by decide +kernel
theorem zd0_1781 : decode (z_b 0) 1781 = .ok (.ireturn, 1) := by decide +kernel
theorem zd0_1774 : decode (z_b 0) 1774 = .ok (.iinc 3 6, 3) := by decide +kernel
theorem zd0_1777 : decode (z_b 0) 1777 = .ok (.goto (-1759), 3) := by decide +kernel
theorem zd0_0 : decode (z_b 0) 0 = .ok (.new 7, 3) := by decide +kernel
theorem zn0_7 : (z_find z_nw (z_oc 0) 7).map (·.1) = some 0 := by decide +kernel
theorem zd0_3 : decode (z_b 0) 3 = .ok (.dup, 1) := by decide +kernel
theorem zcI0_9 : (z_find z_cI (z_oc 0) 9).map (·.1) = some (3, 0, [(0, 1)]) := by decide +kernel
theorem zd0_4 : decode (z_b 0) 4 = .ok (.invokespecial 9, 3) := by decide +kernel
theorem zd0_7 : decode (z_b 0) 7 = .ok (.astore_n 1, 1) := by decide +kernel
theorem zd0_8 : decode (z_b 0) 8 = .ok (.new 10, 3) := by decide +kernel
theorem zn0_10 : (z_find z_nw (z_oc 0) 10).map (·.1) = some 12 := by decide +kernel
theorem zd0_11 : decode (z_b 0) 11 = .ok (.dup, 1) := by decide +kernel
theorem zcI0_12 : (z_find z_cI (z_oc 0) 12).map (·.1) = some (3, 0, [(0, 187)]) := by decide +kernel
theorem zd0_12 : decode (z_b 0) 12 = .ok (.invokespecial 12, 3) := by decide +kernel
theorem zd0_15 : decode (z_b 0) 15 = .ok (.astore_n 2, 1) := by decide +kernel
theorem zd0_16 : decode (z_b 0) 16 = .ok (.iconst 0, 1) := by decide +kernel
theorem zd0_17 : decode (z_b 0) 17 = .ok (.istore_n 3, 1) := by decide +kernel
/-! the law's start, and its loop over the calls: all that is left is one call of each kind -/
/-- the ints of 'remembered' are made once: their room is told ahead -/
def z_pot (M : zH) : Nat := match M[(4 : Nat)]? with
  | some (.inr (_, fs)) => (match fs[(12 : Nat)]? with | some .null => 16400 | _ => 0)
  | _ => 0
def z_szr (M : zH) : Nat := z_sz M + z_pot M
theorem z_potb (M : zH) : z_pot M ≤ 16400 := by
  unfold z_pot
  split
  · split
    · exact Nat.le_refl _
    · exact Nat.zero_le _
  · exact Nat.zero_le _
theorem z_szr_ge (M : zH) : z_sz M ≤ z_szr M := Nat.le_add_right _ _
theorem z_szr_le (M : zH) : z_szr M ≤ z_sz M + 16400 := Nat.add_le_add_left (z_potb M) _
/-- what the fresh heap must give -/
def z_freshOk (I : zH → Prop) : Prop := ∀ (L : Nat) (xs : Nat → Int32) (M : zH), M.length = 53 → z_fr M 4 53 → (∀ k, k < 4 → M[k]? = (z_M0 L xs)[k]?) → I M
/-- what one call must give: it comes to the loop's end, keeps I, and takes little room -/
def z_stepOk (I : zH → Prop) : Prop := ∀ (L : Nat) (xs : Nat → Int32) (i : Int32) (M : zH) (K : Option Value → zH → Prop), 0 ≤ i.toInt → i.toInt + 6 ≤ L → L ≤ 3072 → M[0]? = some (.inl (0, L, .inl xs)) → I M →
  (∀ M2, M2[0]? = some (.inl (0, L, .inl xs)) → I M2 → M2.length ≤ M.length + 1171 → z_szr M2 ≤ z_szr M + 14000 → z_ev 2047 0 1774 [some (.ref 0), some (.ref 4), some (.ref 19), some (.int i)] [] M2 K) → z_ev 2047 0 27 [some (.ref 0), some (.ref 4), some (.ref 19), some (.int i)] [] M K
theorem z_l6 {L : Nat} (hL : L ≤ 3072) : (Int32.ofNat L - 6).toInt = (L : Int) - 6 := by
  rw [Int32.toInt_sub, Int32.toInt_ofNat_of_lt (by omega), show (6 : Int32).toInt = 6 from rfl, Int.bmod_eq_of_le (by omega) (by omega)]
theorem z_lpx {L : Nat} {xs : Nat → Int32} {i : Int32} {M : zH} (hL : L ≤ 3072) (h0 : M[0]? = some (.inl (0, L, .inl xs))) (h4 : (L : Int) - 6 < i.toInt) (r1 : M.length ≤ 600000) (r2 : z_sz M ≤ 7302249) : z_ev 2047 0 18 [some (.ref 0), some (.ref 4), some (.ref 19), some (.int i)] [] M z_K1 := by
  refine z_e1 (pc1 := 19) (L1 := [some (.ref 0), some (.ref 4), some (.ref 19), some (.int i)]) (S1 := [.int i]) zd0_18 rfl rfl rfl ?_
  refine z_e1 (pc1 := 20) (L1 := [some (.ref 0), some (.ref 4), some (.ref 19), some (.int i)]) (S1 := [.ref 0, .int i]) zd0_19 rfl rfl rfl ?_
  refine z_ealn (y := Int32.ofNat L) zd0_20 h0 rfl ?_
  refine z_e1 (pc1 := 23) (L1 := [some (.ref 0), some (.ref 4), some (.ref 19), some (.int i)]) (S1 := [.int 6, .int (Int32.ofNat L), .int i]) zd0_21 rfl rfl rfl ?_
  refine z_e1 (pc1 := 24) (L1 := [some (.ref 0), some (.ref 4), some (.ref 19), some (.int i)]) (S1 := [.int (Int32.ofNat L - 6), .int i]) zd0_23 rfl rfl rfl ?_
  refine z_ej (t := 1780) (t2 := 1780) zd0_24 rfl (if_pos (Int32.lt_iff_toInt_lt.mpr (by rw [z_l6 hL]; exact h4))) ?_
  refine z_e1 (pc1 := 1781) (L1 := [some (.ref 0), some (.ref 4), some (.ref 19), some (.int i)]) (S1 := [.int 1]) zd0_1780 rfl rfl rfl ?_
  exact z_erz zd0_1781 zr0 (by decide) ⟨rfl, r1, r2⟩
theorem z_lpy {L : Nat} {xs : Nat → Int32} {i : Int32} {M : zH} {K : Option Value → zH → Prop} (hL : L ≤ 3072) (h0 : M[0]? = some (.inl (0, L, .inl xs))) (h4 : ¬ ((L : Int) - 6 < i.toInt)) (kk : z_ev 2047 0 27 [some (.ref 0), some (.ref 4), some (.ref 19), some (.int i)] [] M K) : z_ev 2047 0 18 [some (.ref 0), some (.ref 4), some (.ref 19), some (.int i)] [] M K := by
  refine z_e1 (pc1 := 19) (L1 := [some (.ref 0), some (.ref 4), some (.ref 19), some (.int i)]) (S1 := [.int i]) zd0_18 rfl rfl rfl ?_
  refine z_e1 (pc1 := 20) (L1 := [some (.ref 0), some (.ref 4), some (.ref 19), some (.int i)]) (S1 := [.ref 0, .int i]) zd0_19 rfl rfl rfl ?_
  refine z_ealn (y := Int32.ofNat L) zd0_20 h0 rfl ?_
  refine z_e1 (pc1 := 23) (L1 := [some (.ref 0), some (.ref 4), some (.ref 19), some (.int i)]) (S1 := [.int 6, .int (Int32.ofNat L), .int i]) zd0_21 rfl rfl rfl ?_
  refine z_e1 (pc1 := 24) (L1 := [some (.ref 0), some (.ref 4), some (.ref 19), some (.int i)]) (S1 := [.int (Int32.ofNat L - 6), .int i]) zd0_23 rfl rfl rfl ?_
  refine z_ej (t := 1780) (t2 := 27) zd0_24 rfl (if_neg fun q => h4 (by have q2 := Int32.lt_iff_toInt_lt.mp q; rw [z_l6 hL] at q2; exact q2)) ?_
  exact kk
theorem z_lp {I : zH → Prop} (hs : z_stepOk I) {L : Nat} {xs : Nat → Int32} (hL : L ≤ 3072) : ∀ (m : Nat) (i : Int32) (M : zH), 0 ≤ i.toInt → i.toInt ≤ L → (L : Int) - i.toInt ≤ 6 * m → M[0]? = some (.inl (0, L, .inl xs)) → I M → M.length + 1171 * m ≤ 600000 → z_szr M + 14000 * m ≤ 7302249 → z_ev 2047 0 18 [some (.ref 0), some (.ref 4), some (.ref 19), some (.int i)] [] M z_K1 := by
  intro m
  induction m with
  | zero => intro i M h1 h2 h3 h0 hI r1 r2
            have h4 : (L : Int) - 6 < i.toInt := by omega
            exact z_lpx hL h0 h4 (by omega) (Nat.le_trans (z_szr_ge M) (by omega))
  | succ m ih =>
    intro i M h1 h2 h3 h0 hI r1 r2
    by_cases h4 : (L : Int) - 6 < i.toInt
    · exact z_lpx hL h0 h4 (by omega) (Nat.le_trans (z_szr_ge M) (by omega))
    · refine z_lpy hL h0 h4 ?_
      refine hs L xs i M _ h1 (by omega) hL h0 hI (fun M2 g0 g1 g2 g3 => ?_)
      have h5 : (i + 6).toInt = 6 + i.toInt := z_addx (by decide) (by omega) (by omega)
      refine z_e1 (pc1 := 1777) (L1 := [some (.ref 0), some (.ref 4), some (.ref 19), some (.int (i + 6))]) (S1 := []) zd0_1774 rfl rfl rfl ?_
      refine z_e1 (pc1 := 18) (L1 := [some (.ref 0), some (.ref 4), some (.ref 19), some (.int (i + 6))]) (S1 := []) zd0_1777 rfl rfl rfl ?_
      exact ih (i + 6) M2 (by omega) (by omega) (by omega) g0 g1 (by omega) (by omega)
theorem z_fin (I : zH → Prop) (hI : z_freshOk I) (hs : z_stepOk I) (L : Nat) (xs : Nat → Int32) (hL : L ≤ 3072) : z_ev 2047 0 0 (z_ent [.ref 0] 4) [] (z_M0 L xs) z_K1 := by
  obtain ⟨A, B, hA, hAl, hB, hBl, hBs, hBf, hBt⟩ := z_fresh
  have e1 := z_indep (.inl (0, L, .inl xs)) _ _ _ _ _ _ _ _ _ (show (z_Mh ++ [.inr (0, z_blank 0)])[0]? = some z_hole from rfl) hA
  have e2 := z_indep (.inl (0, L, .inl xs)) _ _ _ _ _ _ _ _ _ (z_hp0 e1.2) hB
  rw [← z_hp e1.2] at e2
  have hNA : (A.set 0 (.inl (0, L, .inl xs))).length = 19 := by rw [List.length_set]; exact hAl
  have hNB : (B.set 0 (.inl (0, L, .inl xs))).length = 53 := by rw [List.length_set]; exact hBl
  have hSB : z_sz (B.set 0 (.inl (0, L, .inl xs))) ≤ 53000 := by
    match B, e2.2, hBs with
    | x :: r, _, hs =>
      have h1 : z_sz (x :: r) = z_cz x + z_sz r := rfl
      have h2 : z_sz ((x :: r).set 0 (.inl (0, L, .inl xs))) = z_cz (.inl (0, L, .inl xs)) + z_sz r := rfl
      have h3 : z_cz (.inl (0, L, .inl xs)) ≤ 3100 := by simp only [z_cz]; omega
      omega
  have hFB : z_fr (B.set 0 (.inl (0, L, .inl xs))) 4 53 := fun k h1 h2 => by
    rw [List.getElem?_set_ne (by omega)]
    exact hBf k h1 h2
  have hTB : z_kt3 ((B.set 0 (.inl (0, L, .inl xs)))[3]?) = true := by
    rw [List.getElem?_set_ne (by decide)]
    exact hBt
  have h0B : (B.set 0 (.inl (0, L, .inl xs)))[0]? = some (.inl (0, L, .inl xs)) := z_gs1 e2.2
  have hRO : ∀ k, k < 4 → (B.set 0 (.inl (0, L, .inl xs)))[k]? = (z_M0 L xs)[k]? := fun k hk => by
    match k, hk with
    | 0, _ => exact h0B
    | 1, _ => exact (List.getElem?_set_ne (by decide)).trans ((z_run_grow _ _ _ _ _ _ _ _ _ hB).ro (by decide) (z_gp ((z_run_grow _ _ _ _ _ _ _ _ _ hA).ro (by decide) rfl)))
    | 2, _ => exact (List.getElem?_set_ne (by decide)).trans ((z_run_grow _ _ _ _ _ _ _ _ _ hB).ro (by decide) (z_gp ((z_run_grow _ _ _ _ _ _ _ _ _ hA).ro (by decide) rfl)))
    | 3, _ => exact (List.getElem?_set_ne (by decide)).trans ((z_run_grow _ _ _ _ _ _ _ _ _ hB).ro (by decide) (z_gp ((z_run_grow _ _ _ _ _ _ _ _ _ hA).ro (by decide) rfl)))
  show z_ev 2047 0 0 [some (.ref 0), none, none, none] [] (z_M0 L xs) z_K1
  refine z_enew (N := 4) (fs := z_blank 0) zd0_0 zn0_7 rfl rfl ?_
  refine z_e1 (pc1 := 4) (L1 := [some (.ref 0), none, none, none]) (S1 := [.ref 4, .ref 4]) zd0_3 rfl rfl rfl ?_
  refine z_ecI (vs := [.ref 4]) (r := [.ref 4]) (L2 := z_ent [.ref 4] (z_ml 1)) zd0_4 zcI0_9 (Or.inl rfl) rfl (z_gl rfl) (by decide) rfl rfl (Nat.le_of_ble_eq_true rfl) rfl (Nat.le_of_ble_eq_true rfl) rfl ?_
  refine ⟨_, none, _, e1.1, ?_⟩
  show z_ev _ 0 7 [some (.ref 0), none, none, none] [.ref 4] _ _
  refine z_e1 (pc1 := 8) (L1 := [some (.ref 0), some (.ref 4), none, none]) (S1 := []) zd0_7 rfl rfl rfl ?_
  refine z_enew (N := 19) (fs := z_blank 12) zd0_8 zn0_10 rfl hNA ?_
  refine z_e1 (pc1 := 12) (L1 := [some (.ref 0), some (.ref 4), none, none]) (S1 := [.ref 19, .ref 19]) zd0_11 rfl rfl rfl ?_
  refine z_ecI (vs := [.ref 19]) (r := [.ref 19]) (L2 := z_ent [.ref 19] (z_ml 187)) zd0_12 zcI0_12 (Or.inl rfl) rfl (z_gl hNA) (by decide) rfl rfl (Nat.le_of_ble_eq_true rfl) rfl (Nat.le_of_ble_eq_true rfl) rfl ?_
  refine ⟨_, none, _, e2.1, ?_⟩
  show z_ev _ 0 15 [some (.ref 0), some (.ref 4), none, none] [.ref 19] _ _
  refine z_e1 (pc1 := 16) (L1 := [some (.ref 0), some (.ref 4), some (.ref 19), none]) (S1 := []) zd0_15 rfl rfl rfl ?_
  refine z_e1 (pc1 := 17) (L1 := [some (.ref 0), some (.ref 4), some (.ref 19), none]) (S1 := [.int 0]) zd0_16 rfl rfl rfl ?_
  refine z_e1 (pc1 := 18) (L1 := [some (.ref 0), some (.ref 4), some (.ref 19), some (.int 0)]) (S1 := []) zd0_17 rfl rfl rfl ?_
  exact z_lp hs hL 512 0 _ (by decide) (by simp) (by simp; omega) h0B (hI L xs _ hNB hFB hRO) (by omega) (Nat.le_trans (Nat.add_le_add_right (z_szr_le _) _) (by omega))
/-- all that is owed, from one call of each kind -/
theorem z_all_of (I : zH → Prop) (hI : z_freshOk I) (hs : z_stepOk I) (L : Nat) (xs : Nat → Int32) (hL : L ≤ 3072) : ∃ n d M1, z_run n d 0 0 (z_ent [.ref 0] 4) [] (z_M0 L xs) = some (some (.int 1), M1) ∧ d ≤ 2047 ∧ M1.length ≤ 600000 ∧ z_sz M1 ≤ 7302249 := by
  obtain ⟨n, v, M1, h, rfl, h1, h2⟩ := z_fin I hI hs L xs hL
  exact ⟨n, 2047, M1, h, by decide, h1, h2⟩
