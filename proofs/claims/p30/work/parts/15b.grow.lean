/-! a run keeps every cell's kind and size, and the read-only cells whole -/
def z_kd (e : zE) : (Nat × Nat) ⊕ (Nat × Nat) := match e with
  | .inl (t, n, _) => .inl (t, n)
  | .inr (ci, fs) => .inr (ci, fs.length)
def z_grow (M M1 : zH) : Prop := ∀ k e, M[k]? = some e → ∃ e1, M1[k]? = some e1 ∧ z_kd e1 = z_kd e ∧ (k < 4 → e1 = e)
theorem z_grow.refl (M : zH) : z_grow M M := fun _ e h => ⟨e, h, rfl, fun _ => rfl⟩
theorem z_grow.trans {M M1 M2 : zH} (h : z_grow M M1) (h2 : z_grow M1 M2) : z_grow M M2 := fun k e hk => by
  obtain ⟨e1, a1, a2, a3⟩ := h k e hk
  obtain ⟨e2, b1, b2, b3⟩ := h2 k e1 a1
  exact ⟨e2, b1, b2.trans a2, fun q => (b3 q).trans (a3 q)⟩
theorem z_grow.set {M : zH} {a : Nat} {e0 e1 : zE} (h0 : M[a]? = some e0) (hz : z_kd e1 = z_kd e0) (ha : 4 ≤ a) : z_grow M (M.set a e1) := fun k e hk => by
  by_cases hka : a = k
  · subst hka
    rw [h0] at hk
    cases hk
    refine ⟨e1, ?_, hz, fun q => absurd q (by omega)⟩
    rw [List.getElem?_set]
    simp [(List.getElem?_eq_some_iff.mp h0).1]
  · exact ⟨e, by rw [List.getElem?_set_ne hka]; exact hk, rfl, fun _ => rfl⟩
theorem z_grow.push {M : zH} {e1 : zE} : z_grow M (M ++ [e1]) := fun k e hk => ⟨e, by rw [List.getElem?_append_left (List.getElem?_eq_some_iff.mp hk).1]; exact hk, rfl, fun _ => rfl⟩
theorem z_s2_grow {c : Nat} {b : Bool} {i : Instr} {pc pc1 : Nat} {S S1 : zS} {M M1 : zH} (h : z_s2 c b i pc S M = some (pc1, S1, M1)) : z_grow M M1 := by
  have same : ∀ {pc2 : Nat} {S2 : zS}, some (pc2, S2, M) = some (pc1, S1, M1) → z_grow M M1 := by
    intro pc2 S2 h
    cases h
    exact z_grow.refl M
  have put : ∀ {pc2 : Nat} {S2 : zS} {a : Nat} {e0 e1 : zE}, M[a]? = some e0 → z_kd e1 = z_kd e0 → 4 ≤ a → some (pc2, S2, M.set a e1) = some (pc1, S1, M1) → z_grow M M1 := by
    intro pc2 S2 a e0 e1 h0 hz ha h
    cases h
    exact z_grow.set h0 hz ha
  have more : ∀ {pc2 : Nat} {S2 : zS} {e1 : zE}, some (pc2, S2, M ++ [e1]) = some (pc1, S1, M1) → z_grow M M1 := by
    intro pc2 S2 e1 h
    cases h
    exact z_grow.push
  cases i
  case ldc k => obtain ⟨q, hq, h⟩ := Option.map_eq_some_iff.mp h; exact same (congrArg some h)
  case ldc_w k => obtain ⟨q, hq, h⟩ := Option.map_eq_some_iff.mp h; exact same (congrArg some h)
  case ldc2_w k => obtain ⟨q, hq, h⟩ := Option.map_eq_some_iff.mp h; exact same (congrArg some h)
  case getstatic k => obtain ⟨q, hq, h⟩ := Option.map_eq_some_iff.mp h; exact same (congrArg some h)
  case new k => obtain ⟨q, hq, h⟩ := Option.map_eq_some_iff.mp h; exact more (congrArg some h)
  all_goals dsimp only [z_s2] at h
  all_goals try (cases h; done)
  case getfield k =>
    split at h
    · split at h
      · split at h
        · obtain ⟨v, hv, h⟩ := Option.map_eq_some_iff.mp h
          exact same (congrArg some h)
        · cases h
      · cases h
    · cases h
  case putfield k =>
    split at h
    · split at h
      · rename_i hM hq
        split at h
        · rename_i hg
          exact put hM (by simp [z_kd]) hg.2.1 h
        · cases h
      · cases h
    · cases h
  case newarray t =>
    split at h
    · split at h
      · cases h
      · split at h
        · exact more h
        · exact more h
        · cases h
    · cases h
  case anewarray k =>
    split at h
    · split at h
      · cases h
      · obtain ⟨q, hq, h⟩ := Option.map_eq_some_iff.mp h
        exact more (congrArg some h)
    · cases h
  case arraylength =>
    split at h
    · split at h
      · exact same h
      · cases h
    · cases h
  case iaload =>
    split at h
    · split at h
      · split at h
        · cases h
        · exact same h
      · cases h
    · cases h
  case laload =>
    split at h
    · split at h
      · split at h
        · cases h
        · exact same h
      · cases h
    · cases h
  case aaload =>
    split at h
    · split at h
      · split at h
        · cases h
        · exact same h
      · cases h
    · cases h
  case iastore =>
    split at h
    · split at h
      · rename_i hM
        split at h
        · cases h
        · rename_i hg
          exact put hM (by rfl) (Nat.not_lt.mp fun q => hg (Or.inr (Or.inr q))) h
      · cases h
    · cases h
  case lastore =>
    split at h
    · split at h
      · rename_i hM
        split at h
        · cases h
        · rename_i hg
          exact put hM (by rfl) (Nat.not_lt.mp fun q => hg (Or.inr (Or.inr q))) h
      · cases h
    · cases h
  case aastore =>
    split at h
    · split at h
      · rename_i hM
        split at h
        · cases h
        · rename_i hg
          exact put hM (by rfl) (Nat.not_lt.mp fun q => hg (Or.inr (Or.inr (Or.inl q)))) h
      · cases h
    · split at h
      · rename_i hM hV
        split at h
        · cases h
        · rename_i hg
          exact put hM (by rfl) (Nat.not_lt.mp fun q => hg (Or.inr (Or.inr (Or.inl q)))) h
      · cases h
    · cases h
theorem z_s4_grow {c : Nat} {i : Instr} {pc pc1 : Nat} {S S1 : zS} {M M1 : zH} (h : z_s4 c i pc S M = some (pc1, S1, M1)) : z_grow M M1 := by
  cases i
  case invokestatic k =>
    dsimp only [z_s4] at h
    split at h
    · split at h
      · rename_i hc
        split at h
        · cases h
          unfold z_copy at hc
          split at hc
          · split at hc
            · rename_i hA hB
              split at hc
              · cases hc
              · rename_i hg
                cases hc
                exact z_grow.set hA rfl (Nat.not_lt.mp fun q => hg (Or.inr (Or.inr (Or.inr (Or.inl q)))))
            · cases hc
          · cases hc
        · cases h
      · cases h
    · cases h
  all_goals cases h
theorem z_st_grow {j : Nat} {i : Instr} {pc pc1 : Nat} {L L1 : zL} {S S1 : zS} {M M1 : zH} (h : z_st j i pc L S M = some (pc1, L1, S1, M1)) : z_grow M M1 := by
  unfold z_st at h
  split at h
  · cases h; exact z_grow.refl M
  · split at h
    · rename_i h2
      cases h
      exact z_s2_grow h2
    · split at h
      · rename_i h3
        cases h
        rw [z_s3_same h3]
        exact z_grow.refl _
      · split at h
        · rename_i h4
          cases h
          exact z_s4_grow h4
        · cases h
theorem z_run_grow : ∀ (n d j pc : Nat) (L : zL) (S : zS) (M M1 : zH) (v : Option Value), z_run n d j pc L S M = some (v, M1) → z_grow M M1
  | 0, d, j, pc, L, S, M, M1, v, h => by cases h
  | n + 1, d, j, pc, L, S, M, M1, v, h => by
    unfold z_run at h
    split at h
    · cases h
    · split at h
      · split at h
        · cases h; exact z_grow.refl M
        · split at h
          · rename_i h1
            exact (z_st_grow h1).trans (z_run_grow n _ _ _ _ _ _ _ _ h)
          · split at h
            · split at h
              · split at h
                · rename_i h1
                  exact (z_run_grow n _ _ _ _ _ _ _ _ h1).trans (z_run_grow n _ _ _ _ _ _ _ _ h)
                · cases h
              · cases h
            · cases h
      · cases h
theorem z_ev.grow {d j pc : Nat} {L : zL} {S : zS} {M : zH} {K : Option Value → zH → Prop} (h : z_ev d j pc L S M K) : z_ev d j pc L S M fun v M1 => K v M1 ∧ z_grow M M1 ∧ M.length ≤ M1.length := by
  obtain ⟨n, v, M1, h1, h2⟩ := h
  exact ⟨n, v, M1, h1, h2, z_run_grow _ _ _ _ _ _ _ _ _ h1, (z_run_mono _ _ _ _ _ _ _ _ _ h1).1⟩
theorem z_grow.ro {M M1 : zH} (h : z_grow M M1) {k : Nat} {e : zE} (hk : k < 4) (hM : M[k]? = some e) : M1[k]? = some e := by
  obtain ⟨e1, a1, a2, a3⟩ := h k e hM
  rw [a1, a3 hk]
theorem z_grow.ob {M M1 : zH} (h : z_grow M M1) {k ci : Nat} {fs : List Value} (hM : M[k]? = some (.inr (ci, fs))) : ∃ fs1, M1[k]? = some (.inr (ci, fs1)) ∧ fs1.length = fs.length := by
  obtain ⟨e1, a1, a2, -⟩ := h k _ hM
  match e1, a1, a2 with
  | .inr (c1, fs1), a1, a2 =>
    simp only [z_kd, Sum.inr.injEq, Prod.mk.injEq] at a2
    obtain ⟨rfl, h2⟩ := a2
    exact ⟨fs1, a1, h2⟩
