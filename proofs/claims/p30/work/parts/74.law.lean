/-! what makes a tape an agenda that has a lawful set -/
def z_tv (bb : Nat → Int) (nn : Nat) (nu : Int → Int) (p s : Nat) : Nat := match z_ti bb nn (z_one bb nn nu 6) p with
  | none => 0
  | some (_, f) => f s
def z_lawful (bb : Nat → Int) (nn : Nat) (nu : Int → Int) (k t : Nat) (ts : Nat → Nat) : Prop := ∃ s, s < 2 ^ k ∧ ∀ i, i < t → z_tv bb nn nu (ts i) s = 1
def z_lwA (bb : Nat → Int) (nn : Nat) : Prop := ∃ k nu pr en t ts, z_wh bb nn = some (k, nu, pr, en, t, ts) ∧ z_lawful bb nn nu k t ts
/-- ties that were read can be read again -/
theorem z_pt_ok {bb : Nat → Int} {nn : Nat} {nu : Int → Int} : ∀ (k p pr en t : Nat) (ts : Nat → Nat) (pr2 en2 t2 : Nat) (ts2 : Nat → Nat), z_pt bb nn nu k p pr en t ts = some (pr2, en2, t2, ts2) → (∀ i, i < t → z_ti bb nn (z_one bb nn nu 6) (ts i) ≠ none ∧ ts i ≤ nn) → t ≤ 8 → (∀ i, i < t2 → z_ti bb nn (z_one bb nn nu 6) (ts2 i) ≠ none ∧ ts2 i ≤ nn) ∧ t2 ≤ 8 := by
  intro k
  induction k with
  | zero => intro p pr en t ts pr2 en2 t2 ts2 h; cases h
  | succ k ih =>
    intro p pr en t ts pr2 en2 t2 ts2 h hts ht
    unfold z_pt at h
    by_cases c0 : nn ≤ p
    · rw [if_pos c0] at h
      cases h
      exact ⟨hts, ht⟩
    rw [if_neg c0] at h
    by_cases c1 : bb p ≠ 59
    · rw [if_pos c1] at h
      cases h
    rw [if_neg c1] at h
    by_cases c2 : p + 1 < nn ∧ bb (p + 1) = 112 ∧ pr = 0
    · rw [if_pos c2] at h
      cases e : z_qs bb nn nu (p + 2) with
      | none => rw [e] at h; cases h
      | some r =>
        obtain ⟨q, m⟩ := r
        rw [e] at h
        exact ih q m en t ts pr2 en2 t2 ts2 h hts ht
    rw [if_neg c2] at h
    by_cases c3 : p + 1 < nn ∧ bb (p + 1) = 101 ∧ en = 0
    · rw [if_pos c3] at h
      cases e : z_qs bb nn nu (p + 2) with
      | none => rw [e] at h; cases h
      | some r =>
        obtain ⟨q, m⟩ := r
        rw [e] at h
        exact ih q pr m t ts pr2 en2 t2 ts2 h hts ht
    rw [if_neg c3] at h
    by_cases c4 : p + 1 < nn ∧ bb (p + 1) = 116 ∧ t < 8
    · rw [if_pos c4] at h
      by_cases c5 : p + 2 < nn ∧ bb (p + 2) = 32
      · rw [if_pos c5] at h
        cases e : z_ti bb nn (z_one bb nn nu 6) (p + 3) with
        | none => rw [e] at h; cases h
        | some r =>
          obtain ⟨q, f⟩ := r
          rw [e] at h
          refine ih q pr en (t + 1) _ pr2 en2 t2 ts2 h (fun i hi => ?_) (by omega)
          by_cases c6 : i = t
          · rw [if_pos c6, e]
            exact ⟨(fun a => by cases a), by omega⟩
          · rw [if_neg c6]
            exact hts i (by omega)
      · rw [if_neg c5] at h
        cases h
    · rw [if_neg c4] at h
      cases h
theorem z_wh_ok {bb : Nat → Int} {nn k : Nat} {nu : Int → Int} {pr en t : Nat} {ts : Nat → Nat} (h : z_wh bb nn = some (k, nu, pr, en, t, ts)) : (∀ i, i < t → z_ti bb nn (z_one bb nn nu 6) (ts i) ≠ none ∧ ts i ≤ nn) ∧ t ≤ 8 ∧ k ≠ 0 := by
  unfold z_wh at h
  by_cases c : 1 < nn ∧ bb 0 = 113 ∧ bb 1 = 32
  · rw [if_pos c] at h
    cases e : z_nqw bb nn 2 0 (fun _ => -1) with
    | mk p r =>
      obtain ⟨k2, nu2⟩ := r
      rw [e] at h
      have h : (if k2 = 0 then none else (match z_ptw bb nn nu2 p 0 0 0 (fun _ => 0) with | none => none | some (pr, en, t, ts) => some (k2, nu2, pr, en, t, ts))) = some (k, nu, pr, en, t, ts) := h
      by_cases c2 : k2 = 0
      · rw [if_pos c2] at h
        cases h
      · rw [if_neg c2] at h
        cases e2 : z_ptw bb nn nu2 p 0 0 0 (fun _ => 0) with
        | none => rw [e2] at h; cases h
        | some r2 =>
          obtain ⟨pr2, en2, t2, ts2⟩ := r2
          rw [e2] at h
          cases h
          have h3 := z_pt_ok _ p 0 0 0 (fun _ => 0) _ _ _ _ e2 (fun i hi => absurd hi (Nat.not_lt_zero i)) (by decide)
          exact ⟨h3.1, h3.2, c2⟩
  · rw [if_neg c] at h
    cases h
