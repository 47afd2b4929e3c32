/-! the lowest bit taken out of a word -/
theorem z_lowN {N v : Nat} (h1 : N % 2 ^ v = 0) (h2 : N / 2 ^ v % 2 = 1) (i : Nat) : (N / 2 ^ i % 2 = 1 ∧ (N - 1) / 2 ^ i % 2 = 1) ↔ (N / 2 ^ i % 2 = 1 ∧ i ≠ v) := by
  have hP : 0 < 2 ^ v := Nat.pow_pos (by decide)
  have hN : N = 2 ^ v * (N / 2 ^ v) := by
    have := Nat.div_add_mod N (2 ^ v)
    omega
  have hk : ∃ k, N / 2 ^ v = 2 * k + 1 := ⟨N / 2 ^ v / 2, by omega⟩
  obtain ⟨k, hk⟩ := hk
  rw [hk] at hN
  have hN1 : (N - 1) / 2 ^ v = 2 * k := by
    have e : N - 1 = (2 ^ v - 1) + 2 ^ v * (2 * k) := by
      rw [Nat.mul_add, Nat.mul_one] at hN
      omega
    rw [e, Nat.add_mul_div_left _ _ hP, Nat.div_eq_of_lt (by omega), Nat.zero_add]
  rcases Nat.lt_trichotomy i v with c | c | c
  · have e : N / 2 ^ i % 2 = 0 := by
      have e1 : 2 ^ v = 2 ^ i * (2 * 2 ^ (v - i - 1)) := by
        rw [Nat.mul_comm 2, ← Nat.pow_succ, ← Nat.pow_add]
        congr 1
        omega
      rw [hN, e1, Nat.mul_assoc, Nat.mul_div_cancel_left _ (Nat.pow_pos (by decide)), Nat.mul_assoc]
      exact Nat.mul_mod_right 2 _
    rw [e]
    exact ⟨fun h => absurd h.1 (by decide), fun h => absurd h.1 (by decide)⟩
  · rw [c, hN1]
    exact ⟨fun h => absurd h.2 (by omega), fun h => absurd rfl h.2⟩
  · have e1 : 2 ^ i = 2 ^ v * (2 * 2 ^ (i - v - 1)) := by
      rw [Nat.mul_comm 2, ← Nat.pow_succ, ← Nat.pow_add]
      congr 1
      omega
    have e2 : N / 2 ^ i = k / 2 ^ (i - v - 1) := by
      rw [e1, ← Nat.div_div_eq_div_mul, hk, ← Nat.div_div_eq_div_mul]
      congr 1
      omega
    have e3 : (N - 1) / 2 ^ i = k / 2 ^ (i - v - 1) := by
      rw [e1, ← Nat.div_div_eq_div_mul, hN1, ← Nat.div_div_eq_div_mul]
      congr 1
      omega
    rw [e2, e3]
    exact ⟨fun h => ⟨h.1, by omega⟩, fun h => ⟨h.1, h.1⟩⟩
