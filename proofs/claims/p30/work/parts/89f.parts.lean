/-! parts of told answers in order, and how many answers are in them -/
theorem z_b1s (x k : Nat) : x / 2 ^ (k + 1) % 2 = x / 2 / 2 ^ k % 2 := by rw [Nat.pow_succ, Nat.mul_comm, ← Nat.div_div_eq_div_mul]
theorem z_b0s (x : Nat) : x / 2 ^ 0 % 2 = x % 2 := by rw [Nat.pow_zero, Nat.div_one]
def z_ct : Nat → Nat → Nat
  | 0, _ => 0
  | n + 1, T => T % 2 + z_ct n (T / 2)
theorem z_ctS (n T : Nat) : z_ct (n + 1) T = T % 2 + z_ct n (T / 2) := rfl
/-- how many of the first bits stand -/
def z_cp (v : Nat) : Nat → Nat
  | 0 => 0
  | i + 1 => z_cp v i + v / 2 ^ i % 2
theorem z_cpS (v i : Nat) : z_cp v (i + 1) = z_cp v i + v / 2 ^ i % 2 := rfl
theorem z_cp_s : ∀ n v : Nat, z_cp v (n + 1) = v % 2 + z_cp (v / 2) n
  | 0, v => by
    rw [z_cpS, z_b0s]
    show 0 + v % 2 = v % 2 + 0
    omega
  | n + 1, v => by
    rw [z_cpS, z_cp_s n v, z_b1s, z_cpS]
    omega
theorem z_ct_cp : ∀ n v : Nat, z_ct n v = z_cp v n
  | 0, _ => rfl
  | n + 1, v => by rw [z_cp_s, z_ctS, z_ct_cp n]
theorem z_cp_hi {v : Nat} (h : v < 1024) : ∀ m, z_cp v (10 + m) = z_cp v 10
  | 0 => rfl
  | m + 1 => by
    have e : z_cp v (10 + (m + 1)) = z_cp v (10 + m) + v / 2 ^ (10 + m) % 2 := rfl
    rw [e, z_hi0 h (by omega), z_cp_hi h m]
    rfl
theorem z_cp_T {y n : Nat} (hy : y < 1024) : ∀ i, z_cp (y + 1024 * n) (10 + i) = z_cp y 10 + z_cp n i := by
  have h0 : ∀ i, i ≤ 10 → z_cp (y + 1024 * n) i = z_cp y i := by
    intro i
    induction i with
    | zero => exact fun _ => rfl
    | succ i ih =>
      intro hi
      rw [z_cpS, z_cpS, ih (by omega), z_dbl (by omega)]
  intro i
  induction i with
  | zero => exact h0 10 (Nat.le_refl _)
  | succ i ih =>
    have e : z_cp (y + 1024 * n) (10 + (i + 1)) = z_cp (y + 1024 * n) (10 + i) + (y + 1024 * n) / 2 ^ (10 + i) % 2 := rfl
    rw [e, ih, z_cpS n i, Nat.add_comm 10 i, z_dbh hy]
    omega
/-- parts -/
def z_pof (b T : Nat) : Prop := ∀ k, b / 2 ^ k % 2 = 1 → T / 2 ^ k % 2 = 1
theorem z_pof.bit {b T : Nat} (h : z_pof b T) (k : Nat) : b / 2 ^ k % 2 ≤ T / 2 ^ k % 2 := by
  have h1 := h k
  have h2 := z_m2c (b / 2 ^ k)
  generalize b / 2 ^ k % 2 = x at *
  generalize T / 2 ^ k % 2 = y at *
  rcases h2 with h2 | h2
  · omega
  · have := h1 h2
    omega
theorem z_pof.cp {b T : Nat} (h : z_pof b T) : ∀ i, z_cp b i ≤ z_cp T i := by
  intro i
  induction i with
  | zero => exact Nat.le_refl _
  | succ i ih =>
    have := h.bit i
    rw [z_cpS, z_cpS]
    omega
theorem z_pof.all {b T : Nat} (h : z_pof b T) : ∀ i, z_cp b i = z_cp T i → ∀ k, k < i → b / 2 ^ k % 2 = T / 2 ^ k % 2 := by
  intro i
  induction i with
  | zero => exact fun _ k hk => absurd hk (Nat.not_lt_zero k)
  | succ i ih =>
    intro e k hk
    have h1 := h.bit i
    have h2 := h.cp i
    rw [z_cpS, z_cpS] at e
    by_cases c : k = i
    · rw [c]
      omega
    · exact ih (by omega) k (by omega)
theorem z_pof.eq {b T i : Nat} (h : z_pof b T) (hb : b < 2 ^ i) (hT : T < 2 ^ i) (e : z_cp b i = z_cp T i) : b = T := z_beq hb hT fun k hk => by rw [h.all i e k hk]
theorem z_land_bit (a b k : Nat) : (a &&& b) / 2 ^ k % 2 = 1 ↔ a / 2 ^ k % 2 = 1 ∧ b / 2 ^ k % 2 = 1 := by
  have h := Nat.testBit_and a b k
  rw [Nat.testBit_eq_decide_div_mod_eq, Nat.testBit_eq_decide_div_mod_eq, Nat.testBit_eq_decide_div_mod_eq] at h
  rw [← decide_eq_true_eq (p := (a &&& b) / 2 ^ k % 2 = 1), h, Bool.and_eq_true, decide_eq_true_eq, decide_eq_true_eq]
  all_goals exact Iff.rfl
theorem z_lor_bit (a b k : Nat) : (a ||| b) / 2 ^ k % 2 = 1 ↔ a / 2 ^ k % 2 = 1 ∨ b / 2 ^ k % 2 = 1 := by
  have h := Nat.testBit_or a b k
  rw [Nat.testBit_eq_decide_div_mod_eq, Nat.testBit_eq_decide_div_mod_eq, Nat.testBit_eq_decide_div_mod_eq] at h
  rw [← decide_eq_true_eq (p := (a ||| b) / 2 ^ k % 2 = 1), h, Bool.or_eq_true, decide_eq_true_eq, decide_eq_true_eq]
  all_goals exact Iff.rfl
theorem z_beqA {a b : Nat} (h : ∀ i, (a / 2 ^ i % 2 = 1 ↔ b / 2 ^ i % 2 = 1)) : a = b := by
  apply Nat.eq_of_testBit_eq
  intro i
  rw [Nat.testBit_eq_decide_div_mod_eq, Nat.testBit_eq_decide_div_mod_eq]
  exact decide_eq_decide.mpr (h i)
theorem z_pof.le {b T : Nat} (h : z_pof b T) : b ≤ T := by
  have e : b &&& T = b := z_beqA fun i => by
    rw [z_land_bit]
    exact ⟨fun a => a.1, fun a => ⟨a, h i a⟩⟩
  rw [← e]
  exact Nat.and_le_right
/-! the smallest part that can't stand -/
section ZSF
variable {B : Nat → Nat} {q T i p x f : Nat}
end ZSF
