/-! nearest of both sides -/
def z_Q15 (I : zH → Prop) : Prop := ∀ (x1 : Int32) (x2 : Int32) (M : zH), I M → z_ev 2046 68 0 (z_ent [.ref 4, .int x1, .int x2] (z_ml 68)) [] M fun v M1 => (∃ y, v = some (.int y)) ∧ z_ev 2046 233 0 (z_ent [.ref 19, .int x1, .int x2] (z_ml 233)) [] M1 fun v2 M2 => (∃ y, v2 = some (.int y)) ∧ v = v2 ∧ I M2 ∧ M2.length ≤ M.length + 1171 ∧ z_szr M2 ≤ z_szr M + 14000
theorem zS15 : z_Q15 z_J := by
  intro x1 x2 M ⟨T, hA, hR, h9⟩
  have hW := hA.1.1
  have hbk := hR.2.2.1
  obtain ⟨v1, v2, v3, v4⟩ := z_R5.v hR.1
  have k4 : T[4]? = some (.inl (0, 0, 0, 0, 0)) := hW.k rfl (by decide)
  have k19 : T[19]? = some (.inl (12, 0, 0, 0, 0)) := hW.k rfl (by decide)
  refine z_twoG (C := fun v v2 => v = v2) ?_
  rw [zzm68]
  show z_ev 2046 68 0 [some (.ref 4), some (.int x1), some (.int x2), none] [] M _
  refine zUC68 (d := 2043) hW hW hbk hR.2.1 h9.r9 hA.1 fun y M1 X1 _ _ h1 => ?_
  have hB := z_kee hA X1 (by decide)
  refine ⟨⟨y, rfl⟩, Or.inl ⟨X1.1.1.trans hW.1.symm, z_kep X1 (by decide)⟩, ?_⟩
  have hN : (z_Fv M1 19 13).toInt = (z_Fv M 4 3).toInt := (congrArg Int32.toInt (z_FvK (X1.2.1 19 12 0 0 0 0 13 k19 (by decide)))).trans v2
  have hJ9 : ∀ a : Nat, a < 8 → 0 ≤ (z_Ar M1 35 a).toInt ∧ (z_Ar M1 35 a).toInt ≤ 9 := fun a ha => by
    obtain ⟨f, _, e, h⟩ := hB.1.1.ai (hB.1.1.k (k := 35) (κ := z_ai 35 8 0 9) rfl (by decide)) (by decide)
    rw [e]
    exact h a ha
  have h31 : ∀ a : Nat, a < 8 → 0 ≤ (z_Ar M1 31 a).toInt ∧ (z_Ar M1 31 a).toInt ≤ 1024 := fun a ha => by
    obtain ⟨f, _, e, h⟩ := hB.1.1.ai (hB.1.1.k (k := 31) (κ := z_ai 31 8 0 1024) rfl (by decide)) (by decide)
    rw [e]
    exact h a ha
  obtain ⟨A0, hA0, _, _⟩ := hW.fi k4 (k := 3) (lo := 0) (hi := 8) (by decide) rfl
  have h71 : z_R7 T M1 := hR.2.2.ke hW (fun _ _ h => h) (hbk.ke X1.2 rfl) X1.2 rfl
  have hYN : ∀ a j : Nat, (a : Int) < (z_Fv M1 19 13).toInt → j < (z_Ar M1 35 a).toInt.toNat → 0 ≤ (z_Ar M1 33 (9 * a + j)).toInt ∧ 0 ≤ (z_Ar M1 34 (9 * a + j)).toInt := fun a j ha hj => h71.yn (X1.2.f k4 (by decide) hA0) a j (by rw [hN, z_Fv.of hA0] at ha; exact ha) hj
  have h91 : z_R89 T M1 := by
    obtain ⟨A, hAe, ⟨_, _, k⟩ | ⟨_, b, N, q, t, m, pr, en, B, hAB, ⟨_, _, k⟩ | ⟨_, ho, lz, _⟩⟩⟩ := h1
    · exact h9.ke hbk hW (fun _ _ _ _ _ h => h) k rfl
    · exact h9.ke hbk hW (fun _ _ _ _ _ h => h) k rfl
    · exact h9.one ho hAB.2.1 ⟨(h9 _ _ _ _ hAB.2.1).1.ke hbk hW hAB.2.1 X1.2 rfl, lz⟩
  rw [zzm233]
  show z_ev 2046 233 0 [some (.ref 19), some (.int x1), some (.int x2), none, none, none, none] [] M1 _
  refine zUC233 (d := 2043) hB.1.1 hB.1.1 hJ9 hYN h31 hB.2.2.1 fun z M2 X2 _ _ h2 => ?_
  have key : y = z := by
    rcases z_qBs hR.2.2 hW X1.2 rfl rfl hN h1 h2 with ⟨e1, e2, _, _⟩ | ⟨A, b, q, t, m, pr, en, J, B, w, yy, n, hAe, hp, ob, kb, hY, q10, hm, J9, c1, c2, hj, r1, r2⟩
    · exact Int32.toInt_inj.mp (e1.trans e2.symm)
    · rcases r1 with ⟨a1, a2, _⟩ | ⟨a1, _, _, S, hS, hn⟩
      · rcases r2 with ⟨b1, _⟩ | ⟨b1, _⟩
        · exact Int32.toInt_inj.mp (a1.trans b1.symm)
        · exfalso
          omega
      · rcases r2 with ⟨_, b1⟩ | ⟨_, hn2⟩
        · exfalso
          omega
        · have e31 := hY.2.2.2.2.1
          have em : (z_Ar M1 31 x1.toNatClampNeg).toInt.toNat = z_lc B (2 ^ q) := by omega
          have e30 := hY.2.2.2.2.2.2
          rw [em] at hn2
          obtain ⟨jv, fj, ⟨j0, j9⟩, hL⟩ := (h9 b q t m kb).1
          obtain ⟨⟨xj, g1, g2⟩, c1⟩ := c1
          have eJ := c2.1
          have eJv : jv.toInt.toNat = J := by
            rw [z_ivL fj g1]
            omega
          rw [eJv] at hL
          have ok : z_okJ (z_Ar M (b + 1)) (z_Ar M (b + 2)) (z_Ar M (b + 3)) J := fun j hj9 => by
            obtain ⟨u1, u2, u3⟩ := c1 j hj9
            rw [u1, u2, u3]
            obtain ⟨g, w1, w9⟩ := hj j hj9
            have hl := z_ans.lt g q10
            exact ⟨⟨by omega, w9⟩, ⟨hl.1.1, hl.1.2.1⟩, ⟨hl.2.1, hl.2.2.1⟩, g.2.2⟩
          have hSS : ∀ i, i < z_lc B (2 ^ q) → S i = z_Ar M1 30 (1024 * x1.toNatClampNeg + i) ∧ 0 ≤ (S i).toInt ∧ (S i).toInt < ((2 ^ q : Nat) : Int) := fun i hi => by
            obtain ⟨s, s1, s2, s3⟩ := z_lc_ex (B := B) (2 ^ q) i hi
            have p1 := hS s s1 s2
            have p2 : (z_Ar M1 30 (1024 * x1.toNatClampNeg + z_lc B s)).toInt = (s : Int) := e30 s s1 s2
            rw [s3] at p1 p2
            exact ⟨Int32.toInt_inj.mp (p1.trans p2.symm), by omega, by omega⟩
          refine Int32.toInt_inj.mp (z_nrQ (C := z_tot0 (z_Ar M (b + 1)) (z_Ar M (b + 2)) J) hn hn2 rfl (fun i hi => ?_) (fun i hi => (hSS i hi).1))
          show (z_ds (fun j => z_Ar M1 32 (9 * x1.toNatClampNeg + j)) (fun j => z_Ar M1 33 (9 * x1.toNatClampNeg + j)) (fun j => z_Ar M1 34 (9 * x1.toNatClampNeg + j)) (z_Ar M1 30 (1024 * x1.toNatClampNeg + i)) (z_Ar M1 35 x1.toNatClampNeg).toInt.toNat).toInt = z_tot0 (z_Ar M (b + 1)) (z_Ar M (b + 2)) J - (z_sbL (z_Ar M (b + 4)) (S i).toInt.toNat 10).toInt
          rw [eJ, Int.toNat_natCast, ← (hSS i hi).1]
          have e : z_ds (fun j => z_Ar M1 32 (9 * x1.toNatClampNeg + j)) (fun j => z_Ar M1 33 (9 * x1.toNatClampNeg + j)) (fun j => z_Ar M1 34 (9 * x1.toNatClampNeg + j)) (S i) J = z_ds (z_Ar M (b + 1)) (z_Ar M (b + 2)) (z_Ar M (b + 3)) (S i) J := z_dsC fun j hj9 => by
            obtain ⟨u1, u2, u3⟩ := c1 j hj9
            obtain ⟨w1, w2, w3⟩ := c2.2 j hj9
            exact ⟨w1.trans u1.symm, w2.trans u2.symm, w3.trans u3.symm⟩
          rw [e]
          exact z_farL (hSS i hi).2 q10 J9 ok hL
  exact ⟨⟨z, rfl⟩, by rw [key], ⟨T, z_kee hB X2 (by decide), hR.two7 hW X1 X2 rfl rfl (h71.ke X1.1 (fun _ _ h => h) (h71.1.ke X2.2 rfl) X2.2 rfl), h91.go (hbk.ke X1.2 rfl) X1.1 X2 rfl⟩, X2.1.1.trans X1.1.1.symm, z_kep X2 (by decide)⟩
