/-! an agenda that is made: another kind in its place -/
theorem z_les {T : List zK} {N : Nat} {κ κ1 : zK} (hT : T[N]? = some κ) (hl : z_loose κ) : z_le T (T.set N κ1) := fun a κ2 h2 h3 => by
  by_cases ha : N = a
  · subst ha
    rw [hT] at h2
    cases h2
    exact absurd hl h3
  · rw [List.getElem?_set_ne ha]; exact h2
theorem z_fe1 {q t m m2 : Nat} : ∀ k : Nat, k < 14 → k ≠ 5 → k ≠ 11 → z_fsp 2 q t m 1 k = z_fsp 2 q t m2 1 k
  | 0, _, _, _ => rfl
  | 1, _, _, _ => rfl
  | 2, _, _, _ => rfl
  | 3, _, _, _ => rfl
  | 4, _, _, _ => rfl
  | 5, _, h, _ => absurd rfl h
  | 6, _, _, _ => rfl
  | 7, _, _, _ => rfl
  | 8, _, _, _ => rfl
  | 9, _, _, _ => rfl
  | 10, _, _, _ => rfl
  | 11, _, _, h => absurd rfl h
  | 12, _, _, _ => rfl
  | 13, _, _, _ => rfl
  | k + 14, h, _, _ => absurd h (by omega)
theorem z_fe0 {q t m : Nat} : ∀ k : Nat, k < 14 → k ≠ 5 → k ≠ 10 → k ≠ 11 → z_fsp 2 q t m 1 k = z_fsp 2 q t m 0 k
  | 0, _, _, _, _ => rfl
  | 1, _, _, _, _ => rfl
  | 2, _, _, _, _ => rfl
  | 3, _, _, _, _ => rfl
  | 4, _, _, _, _ => rfl
  | 5, _, h, _, _ => absurd rfl h
  | 6, _, _, _, _ => rfl
  | 7, _, _, _, _ => rfl
  | 8, _, _, _, _ => rfl
  | 9, _, _, _, _ => rfl
  | 10, _, _, h, _ => absurd rfl h
  | 11, _, _, _, h => absurd rfl h
  | 12, _, _, _, _ => rfl
  | 13, _, _, _, _ => rfl
  | k + 14, h, _, _, _ => absurd h (by omega)
theorem z_rek {M : zH} {T : List zK} {N q t m m2 : Nat} (h : z_W M T) (hN : 53 ≤ N) (kN : T[N]? = some (.inl (2, q, t, m, 1))) (n5 : z_F M N 5 = some .null) (n11 : z_F M N 11 = some .null) (hm : m2 ≤ 1024) : z_W M (T.set N (.inl (2, q, t, m2, 1))) ∧ z_le T (T.set N (.inl (2, q, t, m2, 1))) := by
  obtain ⟨fs, g1, g2, g3, g4, g5⟩ := h.ob kN
  have hl : z_loose (.inl (2, q, t, m, 1)) := ⟨rfl, rfl⟩
  have hle := z_les (κ1 := .inl (2, q, t, m2, 1)) kN hl
  unfold z_F at n5 n11
  rw [g1] at n5 n11
  obtain ⟨a1, a2, a3, a4⟩ := g3.2.1 (Or.inl rfl)
  refine h.seal hN kN hl g1 ⟨rfl, g2, ⟨g3.1, fun _ => ⟨a1, a2, a3, hm⟩, fun z => by omega⟩, fun k v hv => ?_⟩
  have hk : k < 14 := by
    have h1 := (List.getElem?_eq_some_iff.mp hv).1
    rw [g2] at h1
    exact Nat.lt_of_lt_of_eq h1 (by decide)
  by_cases e5 : k = 5
  · subst e5
    cases hv.symm.trans n5
    exact True.intro
  · by_cases e11 : k = 11
    · subst e11
      cases hv.symm.trans n11
      exact True.intro
    · rw [← z_fe1 (m := m) k hk e5 e11]
      exact hle.okv (g4 k v hv)
theorem z_rek0 {M : zH} {T : List zK} {N q t m b5 b11 : Nat} {s : Int32} (h : z_W M T) (hN : 53 ≤ N) (kN : T[N]? = some (.inl (2, q, t, m, 1))) (n5 : z_F M N 5 = some (.ref b5)) (n10 : z_F M N 10 = some (.int s)) (hs : s.toInt = (z_sp m : Int)) (n11 : z_F M N 11 = some (.ref b11)) : z_W M (T.set N (.inl (2, q, t, m, 0))) ∧ z_le T (T.set N (.inl (2, q, t, m, 0))) := by
  obtain ⟨fs, g1, g2, g3, g4, g5⟩ := h.ob kN
  have hl : z_loose (.inl (2, q, t, m, 1)) := ⟨rfl, rfl⟩
  have hle := z_les (κ1 := .inl (2, q, t, m, 0)) kN hl
  unfold z_F at n5 n10 n11
  rw [g1] at n5 n10 n11
  refine h.seal hN kN hl g1 ⟨rfl, g2, ⟨g3.1, g3.2.1, fun z => by omega⟩, fun k v hv => ?_⟩
  have hk : k < 14 := by
    have h1 := (List.getElem?_eq_some_iff.mp hv).1
    rw [g2] at h1
    exact Nat.lt_of_lt_of_eq h1 (by decide)
  by_cases e5 : k = 5
  · subst e5
    have hv2 := hv.symm.trans n5
    cases hv2
    exact hle.okv (ci := 2) (q := q) (t := t) (m := m) (J := 1) (k := 5) (g4 5 _ hv)
  · by_cases e11 : k = 11
    · subst e11
      have hv2 := hv.symm.trans n11
      cases hv2
      exact hle.okv (ci := 2) (q := q) (t := t) (m := m) (J := 1) (k := 11) (g4 11 _ hv)
    · by_cases e10 : k = 10
      · subst e10
        have hv2 := hv.symm.trans n10
        cases hv2
        exact ⟨by omega, by omega⟩
      · rw [← z_fe0 k hk e5 e10 e11]
        exact hle.okv (g4 k v hv)
