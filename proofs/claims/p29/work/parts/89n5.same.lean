/-! mend: both sides answer the same -/
def z_Q27 (I : zH → Prop) : Prop := ∀ (x1 : Int32) (x2 : Int32) (x3 : Int32) (M : zH), I M → z_ev 2046 146 0 (z_ent [.ref 4, .int x1, .int x2, .int x3] (z_ml 146)) [] M fun v M1 => (∃ y, v = some (.int y)) ∧ z_ev 2046 272 0 (z_ent [.ref 19, .int x1, .int x2, .int x3] (z_ml 272)) [] M1 fun v2 M2 => (∃ y, v2 = some (.int y)) ∧ v = v2 ∧ I M2 ∧ M2.length ≤ M.length + 1171 ∧ z_szr M2 ≤ z_szr M + 14000
theorem zS27 : z_Q27 z_J := by
  intro x1 x2 x3 M ⟨T, hA, hR⟩
  refine z_J.two (r1 := zw146) (r2 := zw272) (C := fun v v2 => v = v2) hA hR rfl rfl ?_
  rw [zzm146]
  show z_ev 2046 146 0 [some (.ref 4), some (.int x1), some (.int x2), some (.int x3), none] [] M _
  refine zUC146 (d := 2041) hA.1.1 hR.2 hA.1 fun y M1 X1 _ _ h1 => ?_
  have hB := z_kee hA X1 (by decide)
  refine ⟨⟨y, rfl⟩, X1, ?_⟩
  rw [zzm272]
  show z_ev 2046 272 0 [some (.ref 19), some (.int x1), some (.int x2), some (.int x3), none, none, none, none] [] M1 _
  have k19 : T[19]? = some (.inl (12, 0, 0, 0, 0)) := hA.1.1.k rfl (by decide)
  have hN : (z_Fv M1 19 13).toInt = (z_Fv M 4 3).toInt := (congrArg Int32.toInt (z_FvK (X1.2.1 19 12 0 0 0 0 13 k19 (by decide)))).trans (z_R5.v hR.1).2.1
  obtain ⟨A, hAe, h1⟩ := h1
  have hN2 : ∀ A2 : Int32, z_F M1 19 13 = some (.int A2) → A2.toInt = A.toInt := fun A2 h => by
    rw [z_Fv.of h, z_Fv.of hAe] at hN
    exact hN
  rcases h1 with ⟨e1, hno⟩ | ⟨hp, b, N, q, t, m, pr, en, B, hAB, h1⟩
  · refine zUC272 (d := 2042) (q := 0) (t := 0) (m := 0) (pr := 0) (en := 0) (B := fun _ => 0) hB.1.1 (fun A2 hA2 p0 p1 => absurd (And.intro p0 (by have := hN2 A2 hA2; omega)) hno) fun z M2 X2 h2 => ?_
    obtain ⟨A2, hA2, h2⟩ := h2
    have e2 := hN2 A2 hA2
    refine ⟨⟨z, rfl⟩, ?_, X2⟩
    rcases h2 with ⟨h2, _⟩ | ⟨h2, _⟩
    · rw [Int32.toInt_inj.mp (e1.trans h2.symm)]
    · exact absurd (And.intro h2.1 (by omega)) hno
  · have g := (hA.1.1.p3 hAB.2.1).1
    have hm := hAB.2.2.2.1.2.2.1
    obtain ⟨s, s1, s2, _⟩ := z_lc_ex (B := B) (2 ^ q) 0 (by omega)
    have hYS : z_YS M1 x1.toNatClampNeg q t m pr en B := ⟨hAB.2.2.2.2.ke hA.1.1 X1.2 rfl, hAB.2.2.2.1.2.1, ⟨g.1, g.2.1⟩, g.2.2.1, s, s1, s2⟩
    refine zUC272 (d := 2042) hB.1.1 (fun A2 hA2 p0 p1 => hYS) fun z M2 X2 h2 => ?_
    obtain ⟨A2, hA2, h2⟩ := h2
    have e2 := hN2 A2 hA2
    refine ⟨⟨z, rfl⟩, ?_, X2⟩
    rcases h2 with ⟨_, h2⟩ | ⟨_, h2⟩
    · exact absurd (And.intro hp.1 (by omega)) h2
    · have e : y.toInt = z.toInt := by
        rcases h1 with ⟨a1, a2⟩ | ⟨a1, a2⟩
        · rcases h2 with ⟨b1, _⟩ | ⟨b1, _⟩
          · rw [a1, b1]
          · exact absurd b1 a2
        · rcases h2 with ⟨_, b1⟩ | ⟨_, b1⟩
          · exact absurd a1 b1
          · exact z_mdaU a2 b1
      rw [Int32.toInt_inj.mp e]
