/-! mend: nested loops over three and over four -/
def z_l3 (P : Nat → Nat → Nat → Prop) (m a b c : Nat) : Prop := ∀ i j k, i < j → j < k → k < m → (i < a ∨ (i = a ∧ (j < b ∨ (j = b ∧ k < c)))) → P i j k
section ZL3
variable {P : Nat → Nat → Nat → Prop} {m a b c : Nat}
theorem z_l30 : z_l3 P m 0 0 0 := fun i j k _ _ _ h => by omega
theorem z_l3j0 (h : z_l3 P m a 0 0) : z_l3 P m a (a + 1) 0 := fun i j k h1 h2 h3 h4 => h i j k h1 h2 h3 (by omega)
theorem z_l3k0 (h : z_l3 P m a b 0) : z_l3 P m a b (b + 1) := fun i j k h1 h2 h3 h4 => h i j k h1 h2 h3 (by omega)
theorem z_l3k (h : z_l3 P m a b c) (hP : P a b c) : z_l3 P m a b (c + 1) := fun i j k h1 h2 h3 h4 => by
  by_cases e : i = a ∧ j = b ∧ k = c
  · obtain ⟨e1, e2, e3⟩ := e
    rw [e1, e2, e3]
    exact hP
  · exact h i j k h1 h2 h3 (by omega)
theorem z_l3j (h : z_l3 P m a b c) (hc : m ≤ c) : z_l3 P m a (b + 1) 0 := fun i j k h1 h2 h3 h4 => h i j k h1 h2 h3 (by omega)
theorem z_l3i (h : z_l3 P m a b c) (hb : m ≤ b) : z_l3 P m (a + 1) 0 0 := fun i j k h1 h2 h3 h4 => h i j k h1 h2 h3 (by omega)
theorem z_l3E (h : z_l3 P m a b c) (ha : m ≤ a) : ∀ i j k, i < j → j < k → k < m → P i j k := fun i j k h1 h2 h3 => h i j k h1 h2 h3 (by omega)
end ZL3
def z_l4 (P : Nat → Nat → Nat → Nat → Prop) (m a b c e : Nat) : Prop := ∀ i j k l, i < j → j < k → k < l → l < m → (i < a ∨ (i = a ∧ (j < b ∨ (j = b ∧ (k < c ∨ (k = c ∧ l < e)))))) → P i j k l
section ZL4
variable {P : Nat → Nat → Nat → Nat → Prop} {m a b c e : Nat}
theorem z_l40 : z_l4 P m 0 0 0 0 := fun i j k l _ _ _ _ h => by omega
theorem z_l4j0 (h : z_l4 P m a 0 0 0) : z_l4 P m a (a + 1) 0 0 := fun i j k l h1 h2 h3 h4 h5 => h i j k l h1 h2 h3 h4 (by omega)
theorem z_l4k0 (h : z_l4 P m a b 0 0) : z_l4 P m a b (b + 1) 0 := fun i j k l h1 h2 h3 h4 h5 => h i j k l h1 h2 h3 h4 (by omega)
theorem z_l4l0 (h : z_l4 P m a b c 0) : z_l4 P m a b c (c + 1) := fun i j k l h1 h2 h3 h4 h5 => h i j k l h1 h2 h3 h4 (by omega)
theorem z_l4l (h : z_l4 P m a b c e) (hP : P a b c e) : z_l4 P m a b c (e + 1) := fun i j k l h1 h2 h3 h4 h5 => by
  by_cases d : i = a ∧ j = b ∧ k = c ∧ l = e
  · obtain ⟨e1, e2, e3, e4⟩ := d
    rw [e1, e2, e3, e4]
    exact hP
  · exact h i j k l h1 h2 h3 h4 (by omega)
theorem z_l4k (h : z_l4 P m a b c e) (he : m ≤ e) : z_l4 P m a b (c + 1) 0 := fun i j k l h1 h2 h3 h4 h5 => h i j k l h1 h2 h3 h4 (by omega)
theorem z_l4j (h : z_l4 P m a b c e) (hc : m ≤ c) : z_l4 P m a (b + 1) 0 0 := fun i j k l h1 h2 h3 h4 h5 => h i j k l h1 h2 h3 h4 (by omega)
theorem z_l4i (h : z_l4 P m a b c e) (hb : m ≤ b) : z_l4 P m (a + 1) 0 0 0 := fun i j k l h1 h2 h3 h4 h5 => h i j k l h1 h2 h3 h4 (by omega)
theorem z_l4E (h : z_l4 P m a b c e) (ha : m ≤ a) : ∀ i j k l, i < j → j < k → k < l → l < m → P i j k l := fun i j k l h1 h2 h3 h4 => h i j k l h1 h2 h3 h4 (by omega)
end ZL4
