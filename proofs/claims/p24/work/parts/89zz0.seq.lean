/-! all benches of some judges, in order -/
section ZSEQ
variable {m n : Nat} {f g : Nat → Nat} {P P2 : Nat → Prop} {D : Nat → Int}
/-- one more than the last place that can rise; 0 if none can -/
def z_rz (m : Nat) (f : Nat → Nat) : Nat → Nat
  | 0 => 0
  | n + 1 => if f n + 1 < m then n + 1 else z_rz m f n
theorem z_rz0 : ∀ {n}, (∀ i, i < n → ¬ f i + 1 < m) → z_rz m f n = 0
  | 0, _ => rfl
  | n + 1, h => by
    show (if f n + 1 < m then n + 1 else z_rz m f n) = 0
    rw [if_neg (h n (by omega))]
    exact z_rz0 fun i hi => h i (by omega)
theorem z_rzE {j : Nat} : ∀ {n}, j < n → f j + 1 < m → (∀ i, j < i → i < n → ¬ f i + 1 < m) → z_rz m f n = j + 1
  | 0, h, _, _ => absurd h (Nat.not_lt_zero j)
  | n + 1, h, h1, h2 => by
    show (if f n + 1 < m then n + 1 else z_rz m f n) = j + 1
    by_cases c : j = n
    · rw [← c, if_pos h1]
    · rw [if_neg (h2 n (by omega) (by omega))]
      exact z_rzE (by omega) h1 fun i a b => h2 i a (by omega)
theorem z_rzL : ∀ n, z_rz m f n ≤ n
  | 0 => Nat.le_refl 0
  | n + 1 => by
    show (if f n + 1 < m then n + 1 else z_rz m f n) ≤ n + 1
    have h := z_rzL n
    split <;> omega
/-- the next bench -/
def z_nxb (m n : Nat) (f : Nat → Nat) : Nat → Nat := fun i => if z_rz m f n = 0 then f i else if i + 1 < z_rz m f n then f i else f (z_rz m f n - 1) + 1
def z_bk (m n : Nat) : Nat → Nat → Nat
  | 0 => fun _ => 0
  | k + 1 => z_nxb m n (z_bk m n k)
theorem z_nxbR : ∀ n, z_rz m f n ≠ 0 → f (z_rz m f n - 1) + 1 < m
  | 0, h => absurd rfl h
  | n + 1, h => by
    have e : z_rz m f (n + 1) = if f n + 1 < m then n + 1 else z_rz m f n := rfl
    by_cases c : f n + 1 < m
    · rw [e, if_pos c]
      exact c
    · rw [e, if_neg c] at h ⊢
      exact z_nxbR n h
theorem z_nxbB (h : ∀ i, f i < m) (i : Nat) : z_nxb m n f i < m := by
  unfold z_nxb
  split
  · exact h i
  · rename_i c
    split
    · exact h i
    · exact z_nxbR n c
theorem z_bkB (h : 1 ≤ m) : ∀ k i, z_bk m n k i < m
  | 0, _ => h
  | k + 1, i => z_nxbB (z_bkB h k) i
/-- how many and the first, of the first ones -/
def z_kr (P : Nat → Prop) (D : Nat → Int) : Nat → Nat → Int → Prop
  | 0, c, x => c = 0 ∧ x = -2
  | k + 1, c, x => ∃ c0 x0, z_kr P D k c0 x0 ∧ ((P k ∧ c = c0 + 1 ∧ x = if c0 = 0 then D k else x0) ∨ (¬ P k ∧ c = c0 ∧ x = x0))
theorem z_krU : ∀ {k c x c2 x2}, z_kr P D k c x → z_kr P2 D k c2 x2 → (∀ i, i < k → (P i ↔ P2 i)) → c = c2 ∧ x = x2
  | 0, _, _, _, _, ⟨h1, h2⟩, ⟨h3, h4⟩, _ => ⟨h1.trans h3.symm, h2.trans h4.symm⟩
  | k + 1, c, x, c2, x2, ⟨a, u, h, h1⟩, ⟨b, v, h2, h3⟩, e => by
    obtain ⟨rfl, rfl⟩ := z_krU h h2 fun i hi => e i (by omega)
    have ek := e k (by omega)
    rcases h1 with ⟨p, q, r⟩ | ⟨p, q, r⟩ <;> rcases h3 with ⟨p2, q2, r2⟩ | ⟨p2, q2, r2⟩
    · exact ⟨q.trans q2.symm, r.trans r2.symm⟩
    · exact absurd (ek.mp p) p2
    · exact absurd (ek.mpr p2) p
    · exact ⟨q.trans q2.symm, r.trans r2.symm⟩
theorem z_krM : ∀ {k c x}, z_kr P D k c x → c ≤ k
  | 0, _, _, ⟨h, _⟩ => by omega
  | k + 1, c, x, ⟨a, u, h, h1⟩ => by
    have := z_krM h
    rcases h1 with ⟨_, q, _⟩ | ⟨_, q, _⟩ <;> omega
theorem z_krS {k c : Nat} {x : Int} (h : z_kr P D k c x) (p : P k) : z_kr P D (k + 1) (c + 1) (if c = 0 then D k else x) := ⟨c, x, h, Or.inl ⟨p, rfl, rfl⟩⟩
theorem z_krN {k c : Nat} {x : Int} (h : z_kr P D k c x) (p : ¬ P k) : z_kr P D (k + 1) c x := ⟨c, x, h, Or.inr ⟨p, rfl, rfl⟩⟩
/-- how many, or the first -/
def z_kA (P : Nat → Prop) (D : Nat → Int) (K : Nat) (w x : Int) : Prop := ∃ c y, z_kr P D K c y ∧ ((w = 0 ∧ x = (c : Int)) ∨ (w ≠ 0 ∧ x = y))
theorem z_kAU {K : Nat} {w x x2 : Int} (h : z_kA P D K w x) (h2 : z_kA P2 D K w x2) (e : ∀ i, i < K → (P i ↔ P2 i)) : x = x2 := by
  obtain ⟨c, y, a, b⟩ := h
  obtain ⟨c2, y2, a2, b2⟩ := h2
  obtain ⟨rfl, rfl⟩ := z_krU a a2 e
  rcases b with ⟨b, q⟩ | ⟨b, q⟩ <;> rcases b2 with ⟨b2, q2⟩ | ⟨b2, q2⟩
  · exact q.trans q2.symm
  · exact absurd b b2
  · exact absurd b2 b
  · exact q.trans q2.symm
end ZSEQ
