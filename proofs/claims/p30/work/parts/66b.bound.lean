/-! premises and ends are words below 1024 -/
theorem z_sq_lt {b : Nat → Int} {n : Nat} {nu : Int → Int} (hn : ∀ c, nu c < 10) : ∀ f p m : Nat, m < 1024 → (z_sq b n nu f p m).2 < 1024
  | 0, _, _, h => h
  | f + 1, p, m, h => by
    unfold z_sq
    by_cases c : p < n ∧ 0 ≤ nu (b p) ∧ m / 2 ^ (nu (b p)).toNat % 2 = 0
    · rw [if_pos c]
      refine z_sq_lt hn f (p + 1) _ ?_
      have h1 := hn (b p)
      have h2 := c.2.1
      have h3 := c.2.2
      have hi : (nu (b p)).toNat < 10 := by omega
      clear h1 h2 c
      generalize (nu (b p)).toNat = i at *
      have hd : i = 0 ∨ i = 1 ∨ i = 2 ∨ i = 3 ∨ i = 4 ∨ i = 5 ∨ i = 6 ∨ i = 7 ∨ i = 8 ∨ i = 9 := by omega
      rcases hd with rfl | rfl | rfl | rfl | rfl | rfl | rfl | rfl | rfl | rfl <;> omega
    · rw [if_neg c]
      exact h
theorem z_qs_lt {b : Nat → Int} {n p q m : Nat} {nu : Int → Int} (hn : ∀ c, nu c < 10) (h : z_qs b n nu p = some (q, m)) : m < 1024 := by
  unfold z_qs at h
  split at h
  · split at h
    · cases h
    · have h2 : z_sq b n nu (n + 1 - (p + 1)) (p + 1) 0 = (q, m) := Option.some.inj h
      have h3 := z_sq_lt (b := b) (n := n) hn (n + 1 - (p + 1)) (p + 1) 0 (by decide)
      rw [h2] at h3
      exact h3
  · cases h
theorem z_pt_lt {b : Nat → Int} {n : Nat} {nu : Int → Int} (hn : ∀ c, nu c < 10) : ∀ (k p pr en t : Nat) (ts : Nat → Nat) (pr2 en2 t2 : Nat) (ts2 : Nat → Nat), pr < 1024 → en < 1024 → z_pt b n nu k p pr en t ts = some (pr2, en2, t2, ts2) → pr2 < 1024 ∧ en2 < 1024
  | 0, _, _, _, _, _, _, _, _, _, _, _, h => by
    unfold z_pt at h
    cases h
  | k + 1, p, pr, en, t, ts, pr2, en2, t2, ts2, hp, he, h => by
    unfold z_pt at h
    split at h
    · cases h
      exact ⟨hp, he⟩
    · split at h
      · cases h
      · split at h
        · split at h
          · cases h
          · rename_i e
            exact z_pt_lt hn k _ _ _ _ _ _ _ _ _ (z_qs_lt hn e) he h
        · split at h
          · split at h
            · cases h
            · rename_i e
              exact z_pt_lt hn k _ _ _ _ _ _ _ _ _ hp (z_qs_lt hn e) h
          · split at h
            · split at h
              · split at h
                · cases h
                · exact z_pt_lt hn k _ _ _ _ _ _ _ _ _ hp he h
              · cases h
            · cases h
theorem z_nq_lt {b : Nat → Int} {n : Nat} : ∀ (f p k : Nat) (nu : Int → Int), (∀ c, nu c < (k : Int)) → ∀ c, (z_nq b n f p k nu).2.2 c < (((z_nq b n f p k nu).2.1 : Nat) : Int)
  | 0, _, _, _, h => h
  | f + 1, p, k, nu, h => fun c => by
    unfold z_nq
    by_cases hc : p < n ∧ 97 ≤ b p ∧ b p ≤ 106 ∧ nu (b p) < 0
    · rw [if_pos hc]
      refine z_nq_lt f (p + 1) (k + 1) _ (fun c2 => ?_) c
      have h2 := h c2
      show (if c2 = b p then (k : Int) else nu c2) < ((k + 1 : Nat) : Int)
      by_cases e : c2 = b p
      · rw [if_pos e]
        omega
      · rw [if_neg e]
        omega
    · rw [if_neg hc]
      exact h c
theorem z_wh_lt {b : Nat → Int} {n q pr en t : Nat} {nu : Int → Int} {ts : Nat → Nat} (h : z_wh b n = some (q, nu, pr, en, t, ts)) (q10 : q ≤ 10) : pr < 1024 ∧ en < 1024 := by
  unfold z_wh at h
  split at h
  · split at h
    rename_i p k nu1 e
    split at h
    · cases h
    · split at h
      · cases h
      · rename_i e2
        cases h
        have h4 : z_nq b n (n + 1 - 2) 2 0 (fun _ => -1) = (p, q, nu) := e
        have hn : ∀ c, nu c < (q : Int) := fun c => by
          have h3 := z_nq_lt (b := b) (n := n) (n + 1 - 2) 2 0 (fun _ => -1) (fun _ => (by decide : (-1 : Int) < ((0 : Nat) : Int))) c
          rw [h4] at h3
          exact h3
        have h5 : z_pt b n nu (n + 1 - p) p 0 0 0 (fun _ => 0) = some (pr, en, t, ts) := e2
        exact z_pt_lt (fun c => by have := hn c; omega) _ _ _ _ _ _ _ _ _ _ (by decide) (by decide) h5
  · cases h
