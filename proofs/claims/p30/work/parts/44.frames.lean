/-! the invariant from its frames alone -/
theorem z_kew {M M1 : zH} {T T1 : List zK} {rs : List Nat} (hA : z_GG T M ∧ z_GL M ∧ z_G4 M ∧ z_F M 4 5 = z_F M 19 21) (hW : z_W M1 T1) (ke : z_ke T rs M M1) (hr : (z_prt.all fun x => !rs.elem x) = true) : z_GG T1 M1 ∧ z_GL M1 ∧ z_G4 M1 ∧ z_F M1 4 5 = z_F M1 19 21 := by
  have nr : ∀ x ∈ z_prt, ¬ x ∈ rs := fun x hx hm => by
    have h1 := List.all_eq_true.mp hr x hx
    rw [List.elem_iff.mpr hm] at h1
    cases h1
  have h0 := hA.1.1
  have k4 := h0.k (k := 4) (κ := .inl (0, 0, 0, 0, 0)) rfl (by decide)
  have k10 := h0.k (k := 10) (κ := .inr (10, 2, 8, 9, 0)) rfl (by decide)
  have k11 := h0.k (k := 11) (κ := .inr (11, 2, 8, 5, 0)) rfl (by decide)
  have k12 := h0.k (k := 12) (κ := .inr (12, 3, 20, 0, 0)) rfl (by decide)
  have k19 := h0.k (k := 19) (κ := .inl (12, 0, 0, 0, 0)) rfl (by decide)
  have k23 := h0.k (k := 23) (κ := z_af 23 80) rfl (by decide)
  have k24 := h0.k (k := 24) (κ := z_ai 24 8 0 10) rfl (by decide)
  have k31 := h0.k (k := 31) (κ := z_ai 31 8 0 1024) rfl (by decide)
  have e3 : z_F M1 4 3 = z_F M 4 3 := ke.1 4 0 0 0 0 0 3 k4 (nr _ (by decide))
  have e5 : z_F M1 4 5 = z_F M 4 5 := ke.1 4 0 0 0 0 0 5 k4 (nr _ (by decide))
  have e21 : z_F M1 19 21 = z_F M 19 21 := ke.1 19 12 0 0 0 0 21 k19 (nr _ (by decide))
  have e13 : z_F M1 19 13 = z_F M 19 13 := ke.1 19 12 0 0 0 0 13 k19 (nr _ (by decide))
  have o10 := ke.o k10 (nr _ (by decide))
  have o11 := ke.o k11 (nr _ (by decide))
  refine ⟨⟨hW, ?_, ?_⟩, ?_, ?_, by rw [e5, e21]; exact hA.2.2.2⟩
  · unfold z_G1
    rw [e3, e5, o10, o11, ke.o k12 (nr _ (by decide))]
    exact hA.1.2.1
  · intro i b c hi hb hc
    rw [o10] at hb
    rw [o11] at hc
    obtain ⟨f, l1, l2, l3⟩ := h0.aa k10 (by decide) (by decide)
    obtain ⟨f2, l4, l5, l6⟩ := h0.aa k11 (by decide) (by decide)
    obtain ⟨q1, t1, m1, kb⟩ : ∃ q t m, T[b]? = some (.inl (3, q, t, m, 9)) := l3 i b hi (by rw [← l2]; exact hb)
    obtain ⟨q2, t2, m2, kc⟩ : ∃ q t m, T[c]? = some (.inl (3, q, t, m, 5)) := l6 i c hi (by rw [← l5]; exact hc)
    rw [ke.1 b 3 q1 t1 m1 9 0 kb (nr _ (by decide)), ke.1 c 3 q2 t2 m2 5 0 kc (nr _ (by decide))]
    exact hA.1.2.2 i b c hi hb hc
  · unfold z_GL
    rw [ke.a k23 (nr _ (by decide)), ke.a k24 (nr _ (by decide))]
    exact hA.2.1
  · unfold z_G4
    rw [e13, ke.a k31 (nr _ (by decide))]
    exact hA.2.2.1
