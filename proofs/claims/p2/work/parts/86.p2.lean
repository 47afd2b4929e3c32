/-! feed and agenda of both sides: the tapes and the agendas' numbers stay alike -/
theorem z_R5.v {M : zH} (h : z_R5 M) : (z_Fv M 19 1).toInt = (z_Fv M 5 1).toInt ∧ (z_Fv M 19 13).toInt = (z_Fv M 4 3).toInt ∧ (∀ j : Nat, (j : Int) < (z_Fv M 5 1).toInt → (z_Ar M 6 j).toInt = (z_Ar M 20 j).toInt ∧ 0 ≤ (z_Ar M 6 j).toInt ∧ (z_Ar M 6 j).toInt ≤ 255) ∧ ∀ q, q < 6 → z_Lg M 2 q = z_ty2.getD q 0 := by
  obtain ⟨l, l2, a, a2, h1, h2, h3, h4, h5, h6, h7, h8⟩ := h
  rw [z_Fv.of h1, z_Fv.of h2, z_Fv.of h4, z_Fv.of h5]
  exact ⟨h3, h6, h7, h8⟩
theorem z_R5.mk {M : zH} {T : List zK} (hW : z_W M T) (h1 : (z_Fv M 19 1).toInt = (z_Fv M 5 1).toInt) (h2 : (z_Fv M 19 13).toInt = (z_Fv M 4 3).toInt) (h3 : ∀ j : Nat, (j : Int) < (z_Fv M 5 1).toInt → (z_Ar M 6 j).toInt = (z_Ar M 20 j).toInt ∧ 0 ≤ (z_Ar M 6 j).toInt ∧ (z_Ar M 6 j).toInt ≤ 255) (h4 : ∀ q, q < 6 → z_Lg M 2 q = z_ty2.getD q 0) : z_R5 M := by
  have k4 : T[4]? = some (.inl (0, 0, 0, 0, 0)) := hW.k rfl (by decide)
  have k5 : T[5]? = some (.inl (1, 0, 0, 0, 0)) := hW.k rfl (by decide)
  have k19 : T[19]? = some (.inl (12, 0, 0, 0, 0)) := hW.k rfl (by decide)
  obtain ⟨l, g1, _, _⟩ := hW.fi k5 (k := 1) (lo := 0) (hi := 160) (by decide) rfl
  obtain ⟨l2, g2, _, _⟩ := hW.fi k19 (k := 1) (lo := 0) (hi := 160) (by decide) rfl
  obtain ⟨a, g3, _, _⟩ := hW.fi k4 (k := 3) (lo := 0) (hi := 8) (by decide) rfl
  obtain ⟨a2, g4, _, _⟩ := hW.fi k19 (k := 13) (lo := 0) (hi := 8) (by decide) rfl
  rw [z_Fv.of g1, z_Fv.of g2] at h1
  rw [z_Fv.of g3, z_Fv.of g4] at h2
  rw [z_Fv.of g1] at h3
  exact ⟨l, l2, a, a2, g1, g2, h1, g3, g4, h2, h3, h4⟩
/-- both feeds -/
theorem z_R5f {M M1 M2 : zH} {T : List zK} {n y z : Int} {v : Int32} (h5 : z_R5 M) (hW : z_W M T) (X1 : z_X T zw3 M M1) (h1 : z_fdd M M1 5 6 n y v) (X2 : z_X T zw188 M1 M2) (h2 : z_fdd M1 M2 19 20 n z v) : y = z ∧ z_R5 M2 := by
  have k2 := hW.k (k := 2) (κ := z_al 2 6) rfl (by decide)
  have k4 : T[4]? = some (.inl (0, 0, 0, 0, 0)) := hW.k rfl (by decide)
  have k5 : T[5]? = some (.inl (1, 0, 0, 0, 0)) := hW.k rfl (by decide)
  have k19 : T[19]? = some (.inl (12, 0, 0, 0, 0)) := hW.k rfl (by decide)
  have k6 := hW.k (k := 6) (κ := z_af 6 160) rfl (by decide)
  have k20 := hW.k (k := 20) (κ := z_af 20 160) rfl (by decide)
  obtain ⟨v1, v2, v3, v4⟩ := h5.v
  have e19 : z_Fv M1 19 1 = z_Fv M 19 1 := z_FvK (X1.2.1 19 12 0 0 0 0 1 k19 (by decide))
  have e20 : z_Ar M1 20 = z_Ar M 20 := X1.2.a k20 (by decide)
  have f5 : z_Fv M2 5 1 = z_Fv M1 5 1 := z_FvK (X2.2.1 5 1 0 0 0 0 1 k5 (by decide))
  have f6 : z_Ar M2 6 = z_Ar M1 6 := X2.2.a k6 (by decide)
  have a3 : z_Fv M2 4 3 = z_Fv M 4 3 := (z_FvK (X2.2.1 4 0 0 0 0 0 3 k4 (by decide))).trans (z_FvK (X1.2.1 4 0 0 0 0 0 3 k4 (by decide)))
  have a13 : z_Fv M2 19 13 = z_Fv M 19 13 := (z_FvK (X2.2.1 19 12 0 0 0 0 13 k19 (by decide))).trans (z_FvK (X1.2.1 19 12 0 0 0 0 13 k19 (by decide)))
  have l2 : z_Lg M2 2 = z_Lg M 2 := (X2.2.lg k2 (by decide)).trans (X1.2.lg k2 (by decide))
  unfold z_fdd at h1 h2
  rw [e19] at h2
  rcases h1 with ⟨p1, p2, p3⟩ | ⟨p1, p2, p3, p4, p5⟩ | ⟨p1, p2, p3, p4, p5⟩
  · rcases h2 with ⟨q1, q2, q3⟩ | ⟨q1, q2, q3, q4, q5⟩ | ⟨q1, q2, q3, q4, q5⟩
    · refine ⟨by omega, ?_⟩
      rw [q3, p3]
      exact h5
    · exact absurd p1 (by omega)
    · exact absurd p1 (by omega)
  · rcases h2 with ⟨q1, q2, q3⟩ | ⟨q1, q2, q3, q4, q5⟩ | ⟨q1, q2, q3, q4, q5⟩
    · exact absurd q1 (by omega)
    · refine ⟨by omega, ?_⟩
      rw [q4, p4]
      exact h5
    · exact absurd p5 (by omega)
  · rcases h2 with ⟨q1, q2, q3⟩ | ⟨q1, q2, q3, q4, q5⟩ | ⟨q1, q2, q3, q4, q5⟩
    · exact absurd q1 (by omega)
    · exact absurd q5 (by omega)
    · obtain ⟨g1, g2, g3, g4⟩ := p5
      obtain ⟨i1, i2, i3, i4⟩ := q5
      rw [e19] at i2 i1
      refine ⟨by omega, z_R5.mk X2.1 (by rw [f5]; omega) (by rw [a13, a3]; exact v2) (fun j hj => ?_) (fun q hq => by rw [l2]; exact v4 q hq)⟩
      rw [f5] at hj
      have j1 := g1 j
      have j2 := i1 j
      rw [v1, e20] at j2
      rw [f6]
      by_cases c : (z_Fv M 5 1).toInt ≤ (j : Int) ∧ (j : Int) < (z_Fv M 5 1).toInt + n
      · rw [if_pos c] at j1 j2
        have r := z_bytr v ((j : Int) - (z_Fv M 5 1).toInt).toNat
        rw [j1, j2]
        exact ⟨rfl, r⟩
      · rw [if_neg c] at j1 j2
        rw [j1, j2]
        exact v3 j (by omega)
def z_Q0 (I : zH → Prop) : Prop := ∀ (x1 : Int32) (x2 : Int32) (M : zH), I M → z_ev 2046 3 0 (z_ent [.ref 4, .int x1, .int x2] (z_ml 3)) [] M fun v M1 => (∃ y, v = some (.int y)) ∧ z_ev 2046 188 0 (z_ent [.ref 19, .int x1, .int x2] (z_ml 188)) [] M1 fun v2 M2 => (∃ y, v2 = some (.int y)) ∧ v = v2 ∧ I M2 ∧ M2.length ≤ M.length + 1171 ∧ z_szr M2 ≤ z_szr M + 14000
theorem zS0 : z_Q0 z_J := by
  intro x1 x2 M ⟨T, hA, hR⟩
  have hW := hA.1.1
  refine z_twoG (C := fun v v2 => v = v2) ?_
  rw [zzm3]
  show z_ev 2046 3 0 [some (.ref 4), some (.int x1), some (.int x2)] [] M _
  refine zTC3 (d := 2045) hW fun y M1 X1 _ _ h1 => ?_
  have hB := z_kee hA X1 (by decide)
  refine ⟨⟨y, rfl⟩, Or.inl ⟨X1.1.1.trans hW.1.symm, z_kep X1 (by decide)⟩, ?_⟩
  rw [zzm188]
  show z_ev 2046 188 0 [some (.ref 19), some (.int x1), some (.int x2), none] [] M1 _
  refine zYC188 (d := 2045) hB.1.1 fun z M2 X2 _ _ h2 => ?_
  obtain ⟨e, r5⟩ := z_R5f hR hW X1 h1 X2 h2
  exact ⟨⟨z, rfl⟩, by rw [Int32.toInt_inj.mp e], ⟨T, z_kee hB X2 (by decide), r5⟩, X2.1.1.trans X1.1.1.symm, z_kep X2 (by decide)⟩
theorem zJ1 : z_P1 z_J := by
  intro M ⟨T, hA, hR⟩
  have hW := hA.1.1
  obtain ⟨v1, v2, v3, v4⟩ := z_R5.v hR
  have k2 := hW.k (k := 2) (κ := z_al 2 6) rfl (by decide)
  have k5 : T[5]? = some (.inl (1, 0, 0, 0, 0)) := hW.k rfl (by decide)
  have k19 : T[19]? = some (.inl (12, 0, 0, 0, 0)) := hW.k rfl (by decide)
  have k20 := hW.k (k := 20) (κ := z_af 20 160) rfl (by decide)
  obtain ⟨l, hl, l0, l160⟩ := hW.fi k5 (k := 1) (lo := 0) (hi := 160) (by decide) rfl
  have el : z_Fv M 5 1 = l := z_Fv.of hl
  rw [el] at v1 v3
  have hTB : z_TB M (fun k => (z_Ar M 6 k).toInt) l.toInt.toNat := ⟨fun _ => rfl, by rw [el]; omega, ⟨by omega, fun k hk => (v3 k (by omega)).2⟩, v4⟩
  refine z_twoG (C := fun _ _ => True) ?_
  rw [zzm5]
  show z_ev 2046 5 0 [some (.ref 4), none, none] [] M _
  refine zH5 hA hTB (fun y T1 M1 hB hp1 ke hp hs hAG => ?_)
  refine ⟨⟨y, rfl⟩, ?_, ?_⟩
  · unfold z_szr
    rcases hs with h | ⟨h, h2⟩
    · exact Or.inl ⟨h, hp⟩
    · exact Or.inr ⟨by omega, by omega⟩
  rw [zzm190]
  show z_ev 2046 190 0 [some (.ref 19), none, none, none, none, none] [] M1 _
  have e1 : z_Fv M1 19 1 = z_Fv M 19 1 := z_FvK (ke.1 19 12 0 0 0 0 1 k19 (by decide))
  have e13 : z_Fv M1 19 13 = z_Fv M 19 13 := z_FvK (ke.1 19 12 0 0 0 0 13 k19 (by decide))
  have hT0 : y_T0 M1 (fun k => (z_Ar M 6 k).toInt) l.toInt.toNat := ⟨by rw [e1, v1]; omega, by omega, fun j hj => by rw [ke.a k20 (by decide)]; exact (v3 j (by omega)).1⟩
  refine zYC190 (d := 1073) hB.1.1 hB.2.1 hB.2.2.1 hT0 (fun z M2 X2 hgl hg4 hAGP => ?_)
  have j2 : T1[2]? = some (z_al 2 6) := hB.1.1.k rfl (by decide)
  have j4 : T1[4]? = some (.inl (0, 0, 0, 0, 0)) := hB.1.1.k rfl (by decide)
  have j5 : T1[5]? = some (.inl (1, 0, 0, 0, 0)) := hB.1.1.k rfl (by decide)
  have j19 : T1[19]? = some (.inl (12, 0, 0, 0, 0)) := hB.1.1.k rfl (by decide)
  have f5 : z_Fv M2 5 1 = z_Fv M1 5 1 := z_FvK (X2.2.1 5 1 0 0 0 0 1 j5 (by decide))
  have f3 : z_Fv M2 4 3 = z_Fv M1 4 3 := z_FvK (X2.2.1 4 0 0 0 0 0 3 j4 (by decide))
  have l2 : z_Lg M2 2 = z_Lg M 2 := (X2.2.lg j2 (by decide)).trans (ke.lg k2 (by decide))
  have r5 : z_R5 M2 := by
    unfold y_AGP at hAGP
    unfold z_AGC at hAG
    rw [e13, v2] at hAGP
    rcases hAG with ⟨p1, p2⟩ | ⟨p1, p2, p3⟩
    · rcases hAGP with ⟨q1, q2⟩ | ⟨q1, _, _⟩
      · rw [q2, p2]
        exact hR
      · exact absurd p1 q1
    · rcases hAGP with ⟨q1, _⟩ | ⟨_, q2, q3⟩
      · exact absurd q1 p1
      · refine z_R5.mk X2.1 (by rw [f5, p2, q2]) ?_ (fun j hj => by rw [f5, p2] at hj; exact absurd hj (Int.not_lt.mpr (Int.natCast_nonneg j))) (fun q hq => by rw [l2]; exact v4 q hq)
        rw [f3]
        rcases p3 with ⟨p3, p4⟩ | ⟨p3, p4⟩
        · rcases q3 with ⟨q3, q4⟩ | ⟨q3, q4, -⟩
          · omega
          · exact absurd q4 p4
        · rcases q3 with ⟨q3, q4⟩ | ⟨q3, q4, -⟩
          · exact absurd p4 q4
          · omega
  refine ⟨⟨z, rfl⟩, trivial, ⟨T1, ⟨hB.1.go X2 (by decide), hgl, hg4, ?_⟩, r5⟩, X2.1.1.trans hB.1.1.1.symm, z_kep X2 (by decide)⟩
  rw [X2.2.1 4 0 0 0 0 0 5 j4 (by decide), X2.2.1 19 12 0 0 0 0 21 j19 (by decide)]
  exact hB.2.2.2
