/-! both feeds -/
theorem z_R5.v {M : zH} (h : z_R5 M) : (z_Fv M 19 1).toInt = (z_Fv M 5 1).toInt ∧ (z_Fv M 19 13).toInt = (z_Fv M 4 3).toInt ∧ (∀ j : Nat, (j : Int) < (z_Fv M 5 1).toInt → (z_Ar M 6 j).toInt = (z_Ar M 20 j).toInt ∧ 0 ≤ (z_Ar M 6 j).toInt ∧ (z_Ar M 6 j).toInt ≤ 255) ∧ ∀ q, q < 6 → z_Lg M 2 q = z_ty2.getD q 0 := by
  obtain ⟨l, l2, a, a2, h1, h2, h3, h4, h5, h6, h7, h8⟩ := h
  rw [z_Fv.of h1, z_Fv.of h2, z_Fv.of h4, z_Fv.of h5]
  exact ⟨h3, h6, h7, h8⟩
theorem z_R5.mk {M : zH} {T : List zK} (hW : z_W M T) (h1 : (z_Fv M 19 1).toInt = (z_Fv M 5 1).toInt) (h2 : (z_Fv M 19 13).toInt = (z_Fv M 4 3).toInt) (h3 : ∀ j : Nat, (j : Int) < (z_Fv M 5 1).toInt → (z_Ar M 6 j).toInt = (z_Ar M 20 j).toInt ∧ 0 ≤ (z_Ar M 6 j).toInt ∧ (z_Ar M 6 j).toInt ≤ 255) (h4 : ∀ q, q < 6 → z_Lg M 2 q = z_ty2.getD q 0) : z_R5 M := by
  have k4 : T[4]? = some (.inl (0, 0, 0, 0, 0)) := hW.k rfl (by decide)
  have k5 : T[5]? = some (.inl (1, 0, 0, 0, 0)) := hW.k rfl (by decide)
  have k19 : T[19]? = some (.inl (12, 0, 0, 0, 0)) := hW.k rfl (by decide)
  obtain ⟨l, g1, _, _⟩ := hW.fi k5 (k := 1) (lo := 0) (hi := 160) (by decide) rfl
  obtain ⟨l2, g2, _, _⟩ := hW.fi k19 (k := 1) (lo := 0) (hi := 160) (by decide) rfl
  obtain ⟨a, g3, _, _⟩ := hW.fi k4 (k := 3) (lo := 0) (hi := 8) (by decide) rfl
  obtain ⟨a2, g4, _, _⟩ := hW.fi k19 (k := 13) (lo := 0) (hi := 8) (by decide) rfl
  rw [z_Fv.of g1, z_Fv.of g2] at h1
  rw [z_Fv.of g3, z_Fv.of g4] at h2
  rw [z_Fv.of g1] at h3
  exact ⟨l, l2, a, a2, g1, g2, h1, g3, g4, h2, h3, h4⟩
/-- both feeds -/
theorem z_R5f {M M1 M2 : zH} {T : List zK} {n y z : Int} {v : Int32} (h5 : z_R5 M) (hW : z_W M T) (X1 : z_X T zw3 M M1) (h1 : z_fdd M M1 5 6 n y v) (X2 : z_X T zw188 M1 M2) (h2 : z_fdd M1 M2 19 20 n z v) : y = z ∧ z_R5 M2 := by
  have k2 := hW.k (k := 2) (κ := z_al 2 6) rfl (by decide)
  have k4 : T[4]? = some (.inl (0, 0, 0, 0, 0)) := hW.k rfl (by decide)
  have k5 : T[5]? = some (.inl (1, 0, 0, 0, 0)) := hW.k rfl (by decide)
  have k19 : T[19]? = some (.inl (12, 0, 0, 0, 0)) := hW.k rfl (by decide)
  have k6 := hW.k (k := 6) (κ := z_af 6 160) rfl (by decide)
  have k20 := hW.k (k := 20) (κ := z_af 20 160) rfl (by decide)
  obtain ⟨v1, v2, v3, v4⟩ := h5.v
  have e19 : z_Fv M1 19 1 = z_Fv M 19 1 := z_FvK (X1.2.1 19 12 0 0 0 0 1 k19 (by decide))
  have e20 : z_Ar M1 20 = z_Ar M 20 := X1.2.a k20 (by decide)
  have f5 : z_Fv M2 5 1 = z_Fv M1 5 1 := z_FvK (X2.2.1 5 1 0 0 0 0 1 k5 (by decide))
  have f6 : z_Ar M2 6 = z_Ar M1 6 := X2.2.a k6 (by decide)
  have a3 : z_Fv M2 4 3 = z_Fv M 4 3 := (z_FvK (X2.2.1 4 0 0 0 0 0 3 k4 (by decide))).trans (z_FvK (X1.2.1 4 0 0 0 0 0 3 k4 (by decide)))
  have a13 : z_Fv M2 19 13 = z_Fv M 19 13 := (z_FvK (X2.2.1 19 12 0 0 0 0 13 k19 (by decide))).trans (z_FvK (X1.2.1 19 12 0 0 0 0 13 k19 (by decide)))
  have l2 : z_Lg M2 2 = z_Lg M 2 := (X2.2.lg k2 (by decide)).trans (X1.2.lg k2 (by decide))
  unfold z_fdd at h1 h2
  rw [e19] at h2
  rcases h1 with ⟨p1, p2, p3⟩ | ⟨p1, p2, p3, p4, p5⟩ | ⟨p1, p2, p3, p4, p5⟩
  · rcases h2 with ⟨q1, q2, q3⟩ | ⟨q1, q2, q3, q4, q5⟩ | ⟨q1, q2, q3, q4, q5⟩
    · refine ⟨by omega, ?_⟩
      rw [q3, p3]
      exact h5
    · exact absurd p1 (by omega)
    · exact absurd p1 (by omega)
  · rcases h2 with ⟨q1, q2, q3⟩ | ⟨q1, q2, q3, q4, q5⟩ | ⟨q1, q2, q3, q4, q5⟩
    · exact absurd q1 (by omega)
    · refine ⟨by omega, ?_⟩
      rw [q4, p4]
      exact h5
    · exact absurd p5 (by omega)
  · rcases h2 with ⟨q1, q2, q3⟩ | ⟨q1, q2, q3, q4, q5⟩ | ⟨q1, q2, q3, q4, q5⟩
    · exact absurd q1 (by omega)
    · exact absurd q5 (by omega)
    · obtain ⟨g1, g2, g3, g4⟩ := p5
      obtain ⟨i1, i2, i3, i4⟩ := q5
      rw [e19] at i2 i1
      refine ⟨by omega, z_R5.mk X2.1 (by rw [f5]; omega) (by rw [a13, a3]; exact v2) (fun j hj => ?_) (fun q hq => by rw [l2]; exact v4 q hq)⟩
      rw [f5] at hj
      have j1 := g1 j
      have j2 := i1 j
      rw [v1, e20] at j2
      rw [f6]
      by_cases c : (z_Fv M 5 1).toInt ≤ (j : Int) ∧ (j : Int) < (z_Fv M 5 1).toInt + n
      · rw [if_pos c] at j1 j2
        have r := z_bytr v ((j : Int) - (z_Fv M 5 1).toInt).toNat
        rw [j1, j2]
        exact ⟨rfl, r⟩
      · rw [if_neg c] at j1 j2
        rw [j1, j2]
        exact v3 j (by omega)
