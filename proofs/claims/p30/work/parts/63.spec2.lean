/-! O and A apart, as the reference reads them -/
def z_bx (b : Nat → Int) (n : Nat) (g : Nat → zPR) : Nat → Nat → (Nat → Nat) → zPR
  | 0, p, v => some (p, v)
  | k + 1, p, v =>
    if p < n ∧ b p = 38 then
      match g (p + 1) with
      | none => none
      | some (q, f) => z_bx b n g k q (fun s => v s * f s)
    else some (p, v)
def z_blw (b : Nat → Int) (n : Nat) (g : Nat → zPR) (p : Nat) (v : Nat → Nat) : zPR := z_bx b n g (n + 1 - p) p v
def z_bo (b : Nat → Int) (n : Nat) (g : Nat → zPR) (p : Nat) : zPR :=
  match g p with
  | none => none
  | some (q, f) => z_blw b n g q f
def z_el (b : Nat → Int) (n : Nat) (g : Nat → zPR) : Nat → Nat → (Nat → Nat) → zPR
  | 0, p, u => some (p, u)
  | k + 1, p, u =>
    if p < n ∧ b p = 124 then
      match z_bo b n g (p + 1) with
      | none => none
      | some (q, f) => z_el b n g k q (fun s => max (u s) (f s))
    else some (p, u)
def z_elw (b : Nat → Int) (n : Nat) (g : Nat → zPR) (p : Nat) (u : Nat → Nat) : zPR := z_el b n g (n + 1 - p) p u
theorem z_bl_fuel {b : Nat → Int} {n : Nat} {g : Nat → zPR} (hg : z_pg n g) : ∀ (k k2 p : Nat) (v : Nat → Nat), n + 1 ≤ k + p → n + 1 ≤ k2 + p → p ≤ n → z_bx b n g k p v = z_bx b n g k2 p v := by
  intro k
  induction k with
  | zero => intro k2 p v h1 _ h3; omega
  | succ k ih =>
    intro k2 p v h1 h2 h3
    cases k2 with
    | zero => omega
    | succ k2 =>
      unfold z_bx
      by_cases c1 : p < n ∧ b p = 38
      · rw [if_pos c1, if_pos c1]
        cases e : g (p + 1) with
        | none => rfl
        | some r =>
          obtain ⟨q, f⟩ := r
          have hq := hg _ _ _ e
          exact ih k2 q _ (by omega) (by omega) hq.2
      · rw [if_neg c1, if_neg c1]
theorem z_blw_and {b : Nat → Int} {n : Nat} {g : Nat → zPR} (hg : z_pg n g) {p : Nat} {v : Nat → Nat} (h : p < n ∧ b p = 38) : z_blw b n g p v = match g (p + 1) with
    | none => none
    | some (q, f) => z_blw b n g q (fun s => v s * f s) := by
  have e1 : n + 1 - p = (n - p) + 1 := by omega
  unfold z_blw
  rw [e1]
  show (if p < n ∧ b p = 38 then _ else _) = _
  rw [if_pos h]
  cases e : g (p + 1) with
  | none => rfl
  | some r =>
    obtain ⟨q, f⟩ := r
    have hq := hg _ _ _ e
    exact z_bl_fuel hg _ _ q _ (by omega) (by omega) hq.2
theorem z_blw_end {b : Nat → Int} {n : Nat} {g : Nat → zPR} {p : Nat} {v : Nat → Nat} (h1 : ¬ (p < n ∧ b p = 38)) : z_blw b n g p v = some (p, v) := by
  unfold z_blw
  cases e : n + 1 - p with
  | zero => rfl
  | succ k =>
    show (if p < n ∧ b p = 38 then _ else _) = _
    rw [if_neg h1]
theorem z_bl_pg {b : Nat → Int} {n : Nat} {g : Nat → zPR} (hg : z_pg n g) : ∀ (k p : Nat) (v : Nat → Nat) (q : Nat) (f : Nat → Nat), z_bx b n g k p v = some (q, f) → p ≤ n → p ≤ q ∧ q ≤ n := by
  intro k
  induction k with
  | zero => intro p v q f h hp; cases h; exact ⟨Nat.le_refl _, hp⟩
  | succ k ih =>
    intro p v q f h hp
    unfold z_bx at h
    by_cases c1 : p < n ∧ b p = 38
    · rw [if_pos c1] at h
      cases e : g (p + 1) with
      | none => rw [e] at h; cases h
      | some r =>
        obtain ⟨q1, f1⟩ := r
        rw [e] at h
        have hq := hg _ _ _ e
        have h3 := ih q1 _ q f h hq.2
        exact ⟨by omega, h3.2⟩
    · rw [if_neg c1] at h
      cases h
      exact ⟨Nat.le_refl _, hp⟩
theorem z_bo_pg {b : Nat → Int} {n : Nat} {g : Nat → zPR} (hg : z_pg n g) : z_pg n (z_bo b n g) := by
  intro p q f h
  unfold z_bo at h
  cases e : g p with
  | none => rw [e] at h; cases h
  | some r =>
    obtain ⟨q1, f1⟩ := r
    rw [e] at h
    have hq := hg _ _ _ e
    have h3 := z_bl_pg hg _ q1 _ q f h hq.2
    exact ⟨by omega, h3.2⟩
theorem z_el_fuel {b : Nat → Int} {n : Nat} {g : Nat → zPR} (hg : z_pg n g) : ∀ (k k2 p : Nat) (u : Nat → Nat), n + 1 ≤ k + p → n + 1 ≤ k2 + p → p ≤ n → z_el b n g k p u = z_el b n g k2 p u := by
  intro k
  induction k with
  | zero => intro k2 p v h1 _ h3; omega
  | succ k ih =>
    intro k2 p v h1 h2 h3
    cases k2 with
    | zero => omega
    | succ k2 =>
      unfold z_el
      by_cases c1 : p < n ∧ b p = 124
      · rw [if_pos c1, if_pos c1]
        cases e : z_bo b n g (p + 1) with
        | none => rfl
        | some r =>
          obtain ⟨q, f⟩ := r
          have hq := z_bo_pg hg _ _ _ e
          exact ih k2 q _ (by omega) (by omega) hq.2
      · rw [if_neg c1, if_neg c1]
theorem z_elw_or {b : Nat → Int} {n : Nat} {g : Nat → zPR} (hg : z_pg n g) {p : Nat} {u : Nat → Nat} (h : p < n ∧ b p = 124) : z_elw b n g p u = match z_bo b n g (p + 1) with
    | none => none
    | some (q, f) => z_elw b n g q (fun s => max (u s) (f s)) := by
  have e1 : n + 1 - p = (n - p) + 1 := by omega
  unfold z_elw
  rw [e1]
  show (if p < n ∧ b p = 124 then _ else _) = _
  rw [if_pos h]
  cases e : z_bo b n g (p + 1) with
  | none => rfl
  | some r =>
    obtain ⟨q, f⟩ := r
    have hq := z_bo_pg hg _ _ _ e
    exact z_el_fuel hg _ _ q _ (by omega) (by omega) hq.2
theorem z_elw_end {b : Nat → Int} {n : Nat} {g : Nat → zPR} {p : Nat} {u : Nat → Nat} (h1 : ¬ (p < n ∧ b p = 124)) : z_elw b n g p u = some (p, u) := by
  unfold z_elw
  cases e : n + 1 - p with
  | zero => rfl
  | succ k =>
    show (if p < n ∧ b p = 124 then _ else _) = _
    rw [if_neg h1]
/-- both ways of reading are one -/
theorem z_clw_split {b : Nat → Int} {n : Nat} {g : Nat → zPR} (hg : z_pg n g) : ∀ (k p : Nat) (u v : Nat → Nat), n + 1 ≤ k + p → p ≤ n → z_clw b n g p u v = match z_blw b n g p v with
    | none => none
    | some (q, w) => z_elw b n g q (fun s => max (u s) (w s)) := by
  intro k
  induction k with
  | zero => intro p u v h1 h2; omega
  | succ k ih =>
    intro p u v h1 h2
    by_cases c1 : p < n ∧ b p = 38
    · rw [z_clw_and hg c1, z_blw_and hg c1]
      cases e : g (p + 1) with
      | none => rfl
      | some r =>
        obtain ⟨q, f⟩ := r
        have hq := hg _ _ _ e
        exact ih q u _ (by omega) hq.2
    · rw [z_blw_end c1]
      show z_clw b n g p u v = z_elw b n g p (fun s => max (u s) (v s))
      by_cases c2 : p < n ∧ b p = 124
      · rw [z_clw_or hg c2, z_elw_or hg c2]
        unfold z_bo
        cases e : g (p + 1) with
        | none => rfl
        | some r =>
          obtain ⟨q, f⟩ := r
          have hq := hg _ _ _ e
          exact ih q _ f (by omega) hq.2
      · rw [z_clw_end c1 c2, z_elw_end c2]
theorem z_ei_split {b : Nat → Int} {n : Nat} {g : Nat → zPR} (hg : z_pg n g) (p : Nat) : z_ei b n g p = match z_bo b n g p with
    | none => none
    | some (q, w) => z_elw b n g q w := by
  unfold z_ei z_bo
  cases e : g p with
  | none => rfl
  | some r =>
    obtain ⟨q, f⟩ := r
    have hq := hg _ _ _ e
    show z_clw b n g q (fun _ => 0) f = _
    rw [z_clw_split hg (n + 1) q (fun _ => 0) f (by omega) hq.2]
    show (match z_blw b n g q f with | none => none | some (q, w) => z_elw b n g q (fun s => max 0 (w s))) = (match z_blw b n g q f with | none => none | some (q, w) => z_elw b n g q w)
    cases e2 : z_blw b n g q f with
    | none => rfl
    | some r2 =>
      obtain ⟨q2, w⟩ := r2
      show z_elw b n g q2 (fun s => max 0 (w s)) = z_elw b n g q2 w
      have e3 : (fun s => max 0 (w s)) = w := funext fun s => Nat.zero_max (w s)
      rw [e3]
