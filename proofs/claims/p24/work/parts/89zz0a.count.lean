/-! benches: how many there are -/
def z_T (d k : Nat) : Nat := (z_tc.getD (6 * (d + k - 1) + k) 0).toInt.toNat
def z_sm2 (L n : Nat) (f : Nat → Int32) : Nat → Nat
  | 0 => 1
  | c + 1 => z_sm2 L n f c + z_T (L - 1 - (f c).toInt.toNat) (n - c)
def z_S (d n j : Nat) : Nat → Nat
  | 0 => 0
  | s + 1 => z_S d n j s + z_T d (n - (j + s))
theorem z_S1 : ∀ d, d < 12 → ∀ n, n < 6 → ∀ j, j < n → z_S d n j (n - j) + 1 = z_T (d + 1) (n - j) := by decide +kernel
theorem z_Tn : ∀ k, k < 6 → 1 ≤ k → z_T 0 k = 0 := by decide +kernel
theorem z_Tb : ∀ d, d < 13 → ∀ n, n < 6 → z_T d n ≤ 4368 := by decide +kernel
theorem z_Tp : ∀ d, d < 13 → ∀ n, n < 6 → (z_tc.getD (6 * (d + n - 1) + n) 0).toInt = ((z_T d n : Nat) : Int) := by decide +kernel
/-- the next bench of the reference, or that there is none -/
def z_stp (L n : Int) (f g : Nat → Int32) (x : Int) : Prop := (x = 0 ∧ ∀ i : Nat, (i : Int) < n → (f i).toInt = L - 1) ∨ (x = 1 ∧ ∃ j : Nat, (j : Int) < n ∧ (f j).toInt ≠ L - 1 ∧ (∀ i : Nat, j < i → (i : Int) < n → (f i).toInt = L - 1) ∧ (∀ i : Nat, i < j → g i = f i) ∧ ∀ i : Nat, j ≤ i → (i : Int) < n → (g i).toInt = (f j).toInt + 1)
section ZBN
variable {L n : Nat} {f g : Nat → Int32}
theorem z_sm2pos : ∀ c, 1 ≤ z_sm2 L n f c
  | 0 => Nat.le_refl 1
  | c + 1 => Nat.le_trans (z_sm2pos c) (Nat.le_add_right _ _)
theorem z_sm2C : ∀ c, (∀ i, i < c → g i = f i) → z_sm2 L n g c = z_sm2 L n f c
  | 0, _ => rfl
  | c + 1, h => by
    show z_sm2 L n g c + z_T (L - 1 - (g c).toInt.toNat) (n - c) = z_sm2 L n f c + z_T (L - 1 - (f c).toInt.toNat) (n - c)
    rw [z_sm2C c fun i hi => h i (by omega), h c (by omega)]
/-- behind j all is the most: nothing is added -/
theorem z_sm2H {j : Nat} (n6 : n < 6) : ∀ s, j + 1 + s ≤ n → (∀ i, j < i → i < n → (f i).toInt.toNat = L - 1) → z_sm2 L n f (j + 1 + s) = z_sm2 L n f (j + 1)
  | 0, _, _ => rfl
  | s + 1, hs, h => by
    have h1 := z_sm2H n6 s (by omega) h
    have h2 : z_T (L - 1 - (f (j + 1 + s)).toInt.toNat) (n - (j + 1 + s)) = 0 := by
      rw [h (j + 1 + s) (by omega) (by omega), Nat.sub_self]
      exact z_Tn _ (by omega) (by omega)
    have h3 : z_sm2 L n f (j + 1 + (s + 1)) = z_sm2 L n f (j + 1 + s) + z_T (L - 1 - (f (j + 1 + s)).toInt.toNat) (n - (j + 1 + s)) := rfl
    omega
/-- from j on all is one more than f j was -/
theorem z_sm2G {j v : Nat} : ∀ s, j + s ≤ n → (∀ i, j ≤ i → i < n → (g i).toInt.toNat = v) → z_sm2 L n g (j + s) = z_sm2 L n g j + z_S (L - 1 - v) n j s
  | 0, _, _ => rfl
  | s + 1, hs, h => by
    have h1 := z_sm2G s (by omega) h
    have h3 : z_sm2 L n g (j + (s + 1)) = z_sm2 L n g (j + s) + z_T (L - 1 - (g (j + s)).toInt.toNat) (n - (j + s)) := rfl
    have h4 : z_S (L - 1 - v) n j (s + 1) = z_S (L - 1 - v) n j s + z_T (L - 1 - v) (n - (j + s)) := rfl
    rw [h (j + s) (by omega) (by omega)] at h3
    omega
def z_cti (L n : Nat) (f : Nat → Int32) (k mo : Int) : Prop := 0 ≤ k ∧ ((mo = 1 ∧ k.toNat + z_sm2 L n f n = z_T L n) ∨ (mo = 0 ∧ k.toNat = z_T L n))
theorem z_ctiS {k k2 mo x Li ni : Int} (hT : z_cti L n f k mo) (hm : mo ≠ 0) (hs : z_stp Li ni f g x) (eL : Li = (L : Int)) (en : ni = (n : Int)) (hf : ∀ i : Nat, (i : Int) < ni → 0 ≤ (f i).toInt ∧ (f i).toInt < Li) (L1 : 1 ≤ L) (L13 : L < 13) (n1 : 1 ≤ n) (n6 : n < 6) (hk : k2 = k + 1) : z_cti L n g k2 x := by
  obtain ⟨h0, h1⟩ := hT
  rcases h1 with ⟨_, h1⟩ | ⟨h1, _⟩
  · refine ⟨by omega, ?_⟩
    rcases hs with ⟨hx, hs⟩ | ⟨hx, j, jn, hne, hb, he, hu⟩
    · refine Or.inr ⟨hx, ?_⟩
      have h2 := z_sm2G (L := L) (n := n) (g := f) (j := 0) (v := L - 1) n (by omega) (fun i _ hi => by have := hs i (by omega); omega)
      have h3 : z_S (L - 1 - (L - 1)) n 0 n = 0 := by
        have h4 : ∀ n, n < 6 → z_S 0 n 0 n = 0 := by decide +kernel
        rw [Nat.sub_self]
        exact h4 n n6
      rw [Nat.zero_add, h3] at h2
      have h5 : z_sm2 L n f 0 = 1 := rfl
      omega
    · refine Or.inl ⟨hx, ?_⟩
      obtain ⟨f0, f1⟩ := hf j jn
      have d1 : L - 1 - (f j).toInt.toNat = (L - 1 - ((f j).toInt.toNat + 1)) + 1 := by omega
      have h2 := z_sm2H (L := L) (f := f) (j := j) n6 (n - (j + 1)) (by omega) (fun i a b => by have := hb i a (by omega); omega)
      have h3 := z_sm2G (L := L) (n := n) (g := g) (j := j) (v := (f j).toInt.toNat + 1) (n - j) (by omega) (fun i a b => by have := hu i a (by omega); omega)
      have h4 := z_S1 (L - 1 - ((f j).toInt.toNat + 1)) (by omega) n n6 j (by omega)
      have h5 := z_sm2C (L := L) (n := n) j he
      have h6 : z_sm2 L n f (j + 1) = z_sm2 L n f j + z_T (L - 1 - (f j).toInt.toNat) (n - j) := rfl
      rw [show j + 1 + (n - (j + 1)) = n by omega] at h2
      rw [show j + (n - j) = n by omega] at h3
      rw [d1] at h6
      omega
  · exact absurd h1 hm
end ZBN
/-- CHOOSE as it was made -/
def z_chO (M : zH) : Prop := M[(1 : Nat)]? = some (.inl (0, 102, .inl fun j => z_tc.getD j 0))
