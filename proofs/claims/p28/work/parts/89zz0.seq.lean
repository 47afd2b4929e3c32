/-! all benches of some judges, in order -/
section ZSEQ
variable {m n : Nat} {f g : Nat → Nat} {P P2 : Nat → Prop} {D : Nat → Int}
/-- one more than the last place that can rise; 0 if none can -/
def z_rz (m : Nat) (f : Nat → Nat) : Nat → Nat
  | 0 => 0
  | n + 1 => if f n + 1 < m then n + 1 else z_rz m f n
theorem z_rz0 : ∀ {n}, (∀ i, i < n → ¬ f i + 1 < m) → z_rz m f n = 0
  | 0, _ => rfl
  | n + 1, h => by
    show (if f n + 1 < m then n + 1 else z_rz m f n) = 0
    rw [if_neg (h n (by omega))]
    exact z_rz0 fun i hi => h i (by omega)
theorem z_rzE {j : Nat} : ∀ {n}, j < n → f j + 1 < m → (∀ i, j < i → i < n → ¬ f i + 1 < m) → z_rz m f n = j + 1
  | 0, h, _, _ => absurd h (Nat.not_lt_zero j)
  | n + 1, h, h1, h2 => by
    show (if f n + 1 < m then n + 1 else z_rz m f n) = j + 1
    by_cases c : j = n
    · rw [← c, if_pos h1]
    · rw [if_neg (h2 n (by omega) (by omega))]
      exact z_rzE (by omega) h1 fun i a b => h2 i a (by omega)
theorem z_nxbR : ∀ n, z_rz m f n ≠ 0 → f (z_rz m f n - 1) + 1 < m
  | 0, h => absurd rfl h
  | n + 1, h => by
    have e : z_rz m f (n + 1) = if f n + 1 < m then n + 1 else z_rz m f n := rfl
    by_cases c : f n + 1 < m
    · rw [e, if_pos c]
      exact c
    · rw [e, if_neg c] at h ⊢
      exact z_nxbR n h
end ZSEQ
