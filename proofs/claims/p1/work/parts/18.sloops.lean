/-! two loops -/
theorem z_fill {d : Nat} {f0 t : Int32} {v : Int64} (ht : t.toInt ≤ 360) {K : Option Value → zH → Prop} : ∀ (m : Nat) (i : Int32) (M : zH) (g : Nat → Int64), 0 ≤ i.toInt → i.toInt ≤ t.toInt → t.toInt - i.toInt = m → M[16]? = some (.inl (1, 360, .inr (.inl g))) → (∀ g1 i1, z_ev d 20 27 [some (.ref 16), some (.int f0), some (.int t), some (.long v), none, some (.int i1)] [] (M.set 16 (.inl (1, 360, .inr (.inl g1)))) K) → z_ev d 20 10 [some (.ref 16), some (.int f0), some (.int t), some (.long v), none, some (.int i)] [] M K
  | 0, i, M, g, h0, h1, h2, hM, hK => by
    refine z_e1 (pc1 := 12) (L1 := [some (.ref 16), some (.int f0), some (.int t), some (.long v), none, some (.int i)]) (S1 := [.int i]) zd20_10 rfl rfl rfl ?_
    refine z_e1 (pc1 := 13) (L1 := [some (.ref 16), some (.int f0), some (.int t), some (.long v), none, some (.int i)]) (S1 := [.int t, .int i]) zd20_12 rfl rfl rfl ?_
    refine z_ej (t := 27) (t2 := 27) zd20_13 rfl (by exact if_neg fun q => absurd (Int32.lt_iff_toInt_lt.mp q) (by omega)) ?_
    have h9 := hK g i
    rw [z_setid hM] at h9
    exact h9
  | m + 1, i, M, g, h0, h1, h2, hM, hK => by
    refine z_e1 (pc1 := 12) (L1 := [some (.ref 16), some (.int f0), some (.int t), some (.long v), none, some (.int i)]) (S1 := [.int i]) zd20_10 rfl rfl rfl ?_
    refine z_e1 (pc1 := 13) (L1 := [some (.ref 16), some (.int f0), some (.int t), some (.long v), none, some (.int i)]) (S1 := [.int t, .int i]) zd20_12 rfl rfl rfl ?_
    refine z_ej (t := 27) (t2 := 16) zd20_13 rfl (by exact if_pos (Int32.lt_iff_toInt_lt.mpr (by omega))) ?_
    refine z_e1 (pc1 := 17) (L1 := [some (.ref 16), some (.int f0), some (.int t), some (.long v), none, some (.int i)]) (S1 := [.ref 16]) zd20_16 rfl rfl rfl ?_
    refine z_e1 (pc1 := 19) (L1 := [some (.ref 16), some (.int f0), some (.int t), some (.long v), none, some (.int i)]) (S1 := [.int i, .ref 16]) zd20_17 rfl rfl rfl ?_
    refine z_e1 (pc1 := 20) (L1 := [some (.ref 16), some (.int f0), some (.int t), some (.long v), none, some (.int i)]) (S1 := [.long v, .int i, .ref 16]) zd20_19 rfl rfl rfl ?_
    refine z_elas zd20_20 hM (z_inr (show 0 ≤ i.toInt by omega) (show i.toInt < (360 : Nat) by omega)) (by decide) ?_
    refine z_e1 (pc1 := 24) (L1 := [some (.ref 16), some (.int f0), some (.int t), some (.long v), none, some (.int (i + 1))]) (S1 := []) zd20_21 rfl rfl rfl ?_
    refine z_e1 (pc1 := 10) (L1 := [some (.ref 16), some (.int f0), some (.int t), some (.long v), none, some (.int (i + 1))]) (S1 := []) zd20_24 rfl rfl rfl ?_
    have hi2 : ((i + 1)).toInt = 1 + i.toInt := z_addx (by decide) (by omega) (by omega)
    refine z_fill ht m _ _ _ (by omega) (by omega) (by omega) (z_gs1 hM) (fun g1 i1 => ?_)
    rw [List.set_set]
    exact hK g1 i1
theorem z_mrow {d : Nat} {x1 x2 x3 b : Int32} (hb : 60 * x1 + 60 = b) (hb3 : b.toInt ≤ 360) {K : Option Value → zH → Prop} : ∀ (m : Nat) (i : Int32) (M : zH) (g : Nat → Int64), 0 ≤ i.toInt → i.toInt ≤ b.toInt → b.toInt - i.toInt = m → M[19]? = some (.inr (12, [.ref 20, .int 0, .ref 21, .ref 22, .ref 23, .ref 24, .ref 25, .ref 26, .ref 27, .ref 28, .ref 29, .ref 30, .ref 31, .int 0, .ref 32, .ref 33, .ref 34, .ref 35, .ref 36, .ref 37, .ref 38, .int 0, .int 0, .int 0, .int 0, .int 0, .int 0, .int 0, .int 0, .int 0, .int 0, .ref 39, .ref 40, .ref 41, .int 0, .int 0, .ref 42, .ref 43, .ref 44, .ref 45, .ref 46, .int 0, .ref 47, .int 0, .int 0, .int 0, .ref 48, .int 0, .int 0, .ref 49, .ref 50, .ref 51, .ref 52])) → M[51]? = some (.inl (1, 360, .inr (.inl g))) → (∀ g1 i1, z_ev d 285 83 [some (.ref 19), some (.int x1), some (.int x2), some (.int x3), some (.int i1)] [] (M.set 51 (.inl (1, 360, .inr (.inl g1)))) K) → z_ev d 285 57 [some (.ref 19), some (.int x1), some (.int x2), some (.int x3), some (.int i)] [] M K
  | 0, i, M, g, h0, h1, h2, h19, hM, hK => by
    refine z_e1 (pc1 := 59) (L1 := [some (.ref 19), some (.int x1), some (.int x2), some (.int x3), some (.int i)]) (S1 := [.int i]) zd285_57 rfl rfl rfl ?_
    refine z_e1 (pc1 := 61) (L1 := [some (.ref 19), some (.int x1), some (.int x2), some (.int x3), some (.int i)]) (S1 := [.int 60, .int i]) zd285_59 rfl rfl rfl ?_
    refine z_e1 (pc1 := 62) (L1 := [some (.ref 19), some (.int x1), some (.int x2), some (.int x3), some (.int i)]) (S1 := [.int x1, .int 60, .int i]) zd285_61 rfl rfl rfl ?_
    refine z_e1 (pc1 := 63) (L1 := [some (.ref 19), some (.int x1), some (.int x2), some (.int x3), some (.int i)]) (S1 := [.int (60 * x1), .int i]) zd285_62 rfl rfl rfl ?_
    refine z_e1 (pc1 := 65) (L1 := [some (.ref 19), some (.int x1), some (.int x2), some (.int x3), some (.int i)]) (S1 := [.int 60, .int (60 * x1), .int i]) zd285_63 rfl rfl rfl ?_
    refine z_e1 (pc1 := 66) (L1 := [some (.ref 19), some (.int x1), some (.int x2), some (.int x3), some (.int i)]) (S1 := [.int (60 * x1 + 60), .int i]) zd285_65 rfl rfl rfl ?_
    refine z_ej (t := 83) (t2 := 83) zd285_66 rfl (by rw [hb]; exact if_neg fun q => absurd (Int32.lt_iff_toInt_lt.mp q) (by omega)) ?_
    have h9 := hK g i
    rw [z_setid hM] at h9
    exact h9
  | m + 1, i, M, g, h0, h1, h2, h19, hM, hK => by
    refine z_e1 (pc1 := 59) (L1 := [some (.ref 19), some (.int x1), some (.int x2), some (.int x3), some (.int i)]) (S1 := [.int i]) zd285_57 rfl rfl rfl ?_
    refine z_e1 (pc1 := 61) (L1 := [some (.ref 19), some (.int x1), some (.int x2), some (.int x3), some (.int i)]) (S1 := [.int 60, .int i]) zd285_59 rfl rfl rfl ?_
    refine z_e1 (pc1 := 62) (L1 := [some (.ref 19), some (.int x1), some (.int x2), some (.int x3), some (.int i)]) (S1 := [.int x1, .int 60, .int i]) zd285_61 rfl rfl rfl ?_
    refine z_e1 (pc1 := 63) (L1 := [some (.ref 19), some (.int x1), some (.int x2), some (.int x3), some (.int i)]) (S1 := [.int (60 * x1), .int i]) zd285_62 rfl rfl rfl ?_
    refine z_e1 (pc1 := 65) (L1 := [some (.ref 19), some (.int x1), some (.int x2), some (.int x3), some (.int i)]) (S1 := [.int 60, .int (60 * x1), .int i]) zd285_63 rfl rfl rfl ?_
    refine z_e1 (pc1 := 66) (L1 := [some (.ref 19), some (.int x1), some (.int x2), some (.int x3), some (.int i)]) (S1 := [.int (60 * x1 + 60), .int i]) zd285_65 rfl rfl rfl ?_
    refine z_ej (t := 83) (t2 := 69) zd285_66 rfl (by rw [hb]; exact if_pos (Int32.lt_iff_toInt_lt.mpr (by omega))) ?_
    refine z_e1 (pc1 := 70) (L1 := [some (.ref 19), some (.int x1), some (.int x2), some (.int x3), some (.int i)]) (S1 := [.ref 19]) zd285_69 rfl rfl rfl ?_
    refine z_egf (fs := [.ref 20, .int 0, .ref 21, .ref 22, .ref 23, .ref 24, .ref 25, .ref 26, .ref 27, .ref 28, .ref 29, .ref 30, .ref 31, .int 0, .ref 32, .ref 33, .ref 34, .ref 35, .ref 36, .ref 37, .ref 38, .int 0, .int 0, .int 0, .int 0, .int 0, .int 0, .int 0, .int 0, .int 0, .int 0, .ref 39, .ref 40, .ref 41, .int 0, .int 0, .ref 42, .ref 43, .ref 44, .ref 45, .ref 46, .int 0, .ref 47, .int 0, .int 0, .int 0, .ref 48, .int 0, .int 0, .ref 49, .ref 50, .ref 51, .ref 52]) (v := .ref 51) zd285_70 zf285_103 h19 (by decide) (by decide) rfl ?_
    refine z_e1 (pc1 := 75) (L1 := [some (.ref 19), some (.int x1), some (.int x2), some (.int x3), some (.int i)]) (S1 := [.int i, .ref 51]) zd285_73 rfl rfl rfl ?_
    refine z_e1 (pc1 := 76) (L1 := [some (.ref 19), some (.int x1), some (.int x2), some (.int x3), some (.int i)]) (S1 := [.long 0, .int i, .ref 51]) zd285_75 rfl rfl rfl ?_
    refine z_elas zd285_76 hM (z_inr (show 0 ≤ i.toInt by omega) (show i.toInt < (360 : Nat) by omega)) (by decide) ?_
    refine z_e1 (pc1 := 80) (L1 := [some (.ref 19), some (.int x1), some (.int x2), some (.int x3), some (.int (i + 1))]) (S1 := []) zd285_77 rfl rfl rfl ?_
    refine z_e1 (pc1 := 57) (L1 := [some (.ref 19), some (.int x1), some (.int x2), some (.int x3), some (.int (i + 1))]) (S1 := []) zd285_80 rfl rfl rfl ?_
    have hi2 : ((i + 1)).toInt = 1 + i.toInt := z_addx (by decide) (by omega) (by omega)
    refine z_mrow hb hb3 m _ _ _ (by omega) (by omega) (by omega) (z_gn (by decide) h19) (z_gs1 hM) (fun g1 i1 => ?_)
    rw [List.set_set]
    exact hK g1 i1
