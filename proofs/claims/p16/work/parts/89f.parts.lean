/-! parts of told answers in order, and how many answers are in them -/
theorem z_b1s (x k : Nat) : x / 2 ^ (k + 1) % 2 = x / 2 / 2 ^ k % 2 := by rw [Nat.pow_succ, Nat.mul_comm, ← Nat.div_div_eq_div_mul]
theorem z_b0s (x : Nat) : x / 2 ^ 0 % 2 = x % 2 := by rw [Nat.pow_zero, Nat.div_one]
theorem z_hlf {T n : Nat} (h : T < 2 ^ (n + 1)) : T / 2 < 2 ^ n := Nat.div_lt_of_lt_mul (by rw [Nat.pow_succ, Nat.mul_comm] at h; exact h)
def z_ct : Nat → Nat → Nat
  | 0, _ => 0
  | n + 1, T => T % 2 + z_ct n (T / 2)
/-- the part of T with number i -/
def z_dp : Nat → Nat → Nat → Nat
  | 0, _, _ => 0
  | n + 1, T, i => if T % 2 = 1 then i % 2 + 2 * z_dp n (T / 2) (i / 2) else 2 * z_dp n (T / 2) i
theorem z_dp1 {n T i : Nat} (e : T % 2 = 1) : z_dp (n + 1) T i = i % 2 + 2 * z_dp n (T / 2) (i / 2) := if_pos e
theorem z_dp2 {n T i : Nat} (e : ¬ T % 2 = 1) : z_dp (n + 1) T i = 2 * z_dp n (T / 2) i := if_neg e
theorem z_ctS (n T : Nat) : z_ct (n + 1) T = T % 2 + z_ct n (T / 2) := rfl
theorem z_p1c (c : Nat) : 2 ^ (1 + c) = 2 * 2 ^ c := by rw [Nat.add_comm, Nat.pow_succ, Nat.mul_comm]
theorem z_dp_le : ∀ n T i : Nat, z_dp n T i ≤ T
  | 0, T, _ => Nat.zero_le T
  | n + 1, T, i => by
    by_cases e : T % 2 = 1
    · have h := z_dp_le n (T / 2) (i / 2)
      rw [z_dp1 e]
      generalize z_dp n (T / 2) (i / 2) = d at *
      omega
    · have h := z_dp_le n (T / 2) i
      rw [z_dp2 e]
      generalize z_dp n (T / 2) i = d at *
      omega
theorem z_dp_0 : ∀ n T : Nat, z_dp n T 0 = 0
  | 0, _ => rfl
  | n + 1, T => by
    by_cases e : T % 2 = 1
    · rw [z_dp1 e, Nat.zero_div, z_dp_0 n]
    · rw [z_dp2 e, z_dp_0 n]
theorem z_dp_sub : ∀ n T i k : Nat, z_dp n T i / 2 ^ k % 2 = 1 → T / 2 ^ k % 2 = 1
  | 0, T, i, k, h => by
    have e : z_dp 0 T i = 0 := rfl
    rw [e, Nat.zero_div] at h
    exact absurd h (by decide)
  | n + 1, T, i, k, h => by
    by_cases e : T % 2 = 1
    · rw [z_dp1 e] at h
      cases k with
      | zero => rw [z_b0s]; exact e
      | succ k =>
        rw [z_b1s] at h ⊢
        rw [show (i % 2 + 2 * z_dp n (T / 2) (i / 2)) / 2 = z_dp n (T / 2) (i / 2) by omega] at h
        exact z_dp_sub n (T / 2) (i / 2) k h
    · rw [z_dp2 e] at h
      cases k with
      | zero =>
        rw [z_b0s] at h
        omega
      | succ k =>
        rw [z_b1s] at h ⊢
        rw [show 2 * z_dp n (T / 2) i / 2 = z_dp n (T / 2) i by omega] at h
        exact z_dp_sub n (T / 2) i k h
theorem z_dp_cpl : ∀ n T i k : Nat, (T - z_dp n T i) / 2 ^ k % 2 = 1 ↔ T / 2 ^ k % 2 = 1 ∧ z_dp n T i / 2 ^ k % 2 = 0
  | 0, T, i, k => by
    have e : z_dp 0 T i = 0 := rfl
    rw [e, Nat.sub_zero, Nat.zero_div]
    exact ⟨fun h => ⟨h, rfl⟩, fun h => h.1⟩
  | n + 1, T, i, k => by
    by_cases e : T % 2 = 1
    · have ih := z_dp_cpl n (T / 2) (i / 2)
      have hl := z_dp_le n (T / 2) (i / 2)
      rw [z_dp1 e]
      generalize z_dp n (T / 2) (i / 2) = d at *
      cases k with
      | zero =>
        rw [z_b0s, z_b0s, z_b0s]
        omega
      | succ k =>
        rw [z_b1s, z_b1s, z_b1s, show (T - (i % 2 + 2 * d)) / 2 = T / 2 - d by omega, show (i % 2 + 2 * d) / 2 = d by omega]
        exact ih k
    · have ih := z_dp_cpl n (T / 2) i
      have hl := z_dp_le n (T / 2) i
      rw [z_dp2 e]
      generalize z_dp n (T / 2) i = d at *
      cases k with
      | zero =>
        rw [z_b0s, z_b0s, z_b0s]
        omega
      | succ k =>
        rw [z_b1s, z_b1s, z_b1s, show (T - 2 * d) / 2 = T / 2 - d by omega, show 2 * d / 2 = d by omega]
        exact ih k
theorem z_dp_lt : ∀ n T i : Nat, i + 1 < 2 ^ z_ct n T → z_dp n T i < T
  | 0, T, i, h => by
    have e : z_ct 0 T = 0 := rfl
    rw [e] at h
    exact absurd h (by omega)
  | n + 1, T, i, h => by
    rw [z_ctS] at h
    by_cases e : T % 2 = 1
    · have ih := z_dp_lt n (T / 2) (i / 2)
      have hl := z_dp_le n (T / 2) (i / 2)
      rw [z_dp1 e]
      rw [e, z_p1c] at h
      generalize z_dp n (T / 2) (i / 2) = d at *
      generalize 2 ^ z_ct n (T / 2) = P at *
      by_cases c : i % 2 = 0
      · omega
      · have := ih (by omega)
        omega
    · have ih := z_dp_lt n (T / 2) i
      rw [z_dp2 e]
      rw [show T % 2 = 0 by omega, Nat.zero_add] at h
      have := ih h
      omega
theorem z_dp_step : ∀ n T i : Nat, i + 1 < 2 ^ z_ct n T → ∀ k, (z_dp n T (i + 1) / 2 ^ k % 2 = 1 ↔ T / 2 ^ k % 2 = 1 ∧ (T - z_dp n T i - 1) / 2 ^ k % 2 = 0)
  | 0, T, i, h, k => by
    have e : z_ct 0 T = 0 := rfl
    rw [e] at h
    exact absurd h (by omega)
  | n + 1, T, i, h, k => by
    rw [z_ctS] at h
    by_cases e : T % 2 = 1
    · have hl := z_dp_le n (T / 2) (i / 2)
      have hlt := z_dp_lt n (T / 2) (i / 2)
      have hc := z_dp_cpl n (T / 2) (i / 2)
      have hs := z_dp_sub n (T / 2) (i / 2)
      have ih := z_dp_step n (T / 2) (i / 2)
      rw [e, z_p1c] at h
      rw [z_dp1 e, z_dp1 e]
      by_cases c : i % 2 = 0
      · rw [show (i + 1) / 2 = i / 2 by omega, show (i + 1) % 2 = 1 by omega, c]
        generalize z_dp n (T / 2) (i / 2) = d at *
        cases k with
        | zero =>
          rw [z_b0s, z_b0s, z_b0s]
          omega
        | succ k =>
          rw [z_b1s, z_b1s, z_b1s, show (1 + 2 * d) / 2 = d by omega, show (T - (0 + 2 * d) - 1) / 2 = T / 2 - d by omega]
          have h1 := hc k
          have h2 := hs k
          refine ⟨fun a => ⟨h2 a, z_m2n fun b => ?_⟩, fun a => ?_⟩
          · rw [(h1.mp b).2] at a
            cases a
          · rcases z_m2c (d / 2 ^ k) with b | b
            · have h3 := h1.mpr ⟨a.1, b⟩
              rw [a.2] at h3
              cases h3
            · exact b
      · have c1 : i % 2 = 1 := by omega
        have hp : i / 2 + 1 < 2 ^ z_ct n (T / 2) := by
          generalize 2 ^ z_ct n (T / 2) = P at *
          omega
        have h1 := ih hp
        have h2 := hlt hp
        rw [show (i + 1) / 2 = i / 2 + 1 by omega, show (i + 1) % 2 = 0 by omega, c1]
        generalize z_dp n (T / 2) (i / 2) = d at *
        generalize z_dp n (T / 2) (i / 2 + 1) = d2 at *
        cases k with
        | zero =>
          rw [z_b0s, z_b0s, z_b0s]
          omega
        | succ k =>
          rw [z_b1s, z_b1s, z_b1s, show (0 + 2 * d2) / 2 = d2 by omega, show (T - (1 + 2 * d) - 1) / 2 = T / 2 - d - 1 by omega]
          exact h1 k
    · have hl := z_dp_le n (T / 2) i
      have hlt := z_dp_lt n (T / 2) i
      have ih := z_dp_step n (T / 2) i
      rw [show T % 2 = 0 by omega, Nat.zero_add] at h
      have h1 := ih h
      have h2 := hlt h
      rw [z_dp2 e, z_dp2 e]
      generalize z_dp n (T / 2) i = d at *
      generalize z_dp n (T / 2) (i + 1) = d2 at *
      cases k with
      | zero =>
        rw [z_b0s, z_b0s, z_b0s]
        omega
      | succ k =>
        rw [z_b1s, z_b1s, z_b1s, show 2 * d2 / 2 = d2 by omega, show (T - 2 * d - 1) / 2 = T / 2 - d - 1 by omega]
        exact h1 k
theorem z_dp_up : ∀ n T i : Nat, i + 1 < 2 ^ z_ct n T → z_dp n T i < z_dp n T (i + 1)
  | 0, T, i, h => by
    have e : z_ct 0 T = 0 := rfl
    rw [e] at h
    exact absurd h (by omega)
  | n + 1, T, i, h => by
    rw [z_ctS] at h
    by_cases e : T % 2 = 1
    · have ih := z_dp_up n (T / 2) (i / 2)
      rw [e, z_p1c] at h
      rw [z_dp1 e, z_dp1 e]
      by_cases c : i % 2 = 0
      · rw [show (i + 1) / 2 = i / 2 by omega]
        omega
      · have hp : i / 2 + 1 < 2 ^ z_ct n (T / 2) := by
          generalize 2 ^ z_ct n (T / 2) = P at *
          omega
        have h1 := ih hp
        rw [show (i + 1) / 2 = i / 2 + 1 by omega]
        omega
    · have ih := z_dp_up n (T / 2) i
      rw [show T % 2 = 0 by omega, Nat.zero_add] at h
      have h1 := ih h
      rw [z_dp2 e, z_dp2 e]
      omega
theorem z_dp_last : ∀ n T i : Nat, T < 2 ^ n → i + 1 = 2 ^ z_ct n T → z_dp n T i = T
  | 0, T, i, hT, _ => by
    have e : z_dp 0 T i = 0 := rfl
    have h0 : T < 1 := hT
    rw [e]
    omega
  | n + 1, T, i, hT, h => by
    rw [z_ctS] at h
    by_cases e : T % 2 = 1
    · have ih := z_dp_last n (T / 2) (i / 2) (z_hlf hT)
      rw [e, z_p1c] at h
      have hp : i / 2 + 1 = 2 ^ z_ct n (T / 2) := by
        generalize 2 ^ z_ct n (T / 2) = P at *
        omega
      rw [z_dp1 e, ih hp]
      generalize 2 ^ z_ct n (T / 2) = P at *
      omega
    · have ih := z_dp_last n (T / 2) i (z_hlf hT)
      rw [show T % 2 = 0 by omega, Nat.zero_add] at h
      rw [z_dp2 e, ih h]
      omega
theorem z_dp_ex : ∀ n T b : Nat, b < 2 ^ n → (∀ k, b / 2 ^ k % 2 = 1 → T / 2 ^ k % 2 = 1) → ∃ i, i < 2 ^ z_ct n T ∧ z_dp n T i = b
  | 0, T, b, hb, _ => by
    have h0 : b < 1 := hb
    exact ⟨0, Nat.lt_succ_self 0, by show 0 = b; omega⟩
  | n + 1, T, b, hb, h => by
    have h1 : ∀ k, b / 2 / 2 ^ k % 2 = 1 → T / 2 / 2 ^ k % 2 = 1 := fun k a => by
      have h2 := h (k + 1)
      rw [z_b1s, z_b1s] at h2
      exact h2 a
    obtain ⟨i, h2, h3⟩ := z_dp_ex n (T / 2) (b / 2) (z_hlf hb) h1
    have h4 := h 0
    rw [z_b0s, z_b0s] at h4
    rw [z_ctS]
    by_cases e : T % 2 = 1
    · refine ⟨b % 2 + 2 * i, ?_, ?_⟩
      · rw [e, z_p1c]
        generalize 2 ^ z_ct n (T / 2) = P at *
        omega
      · rw [z_dp1 e, show (b % 2 + 2 * i) / 2 = i by omega, h3]
        omega
    · refine ⟨i, ?_, ?_⟩
      · rw [show T % 2 = 0 by omega, Nat.zero_add]
        exact h2
      · rw [z_dp2 e, h3]
        omega
theorem z_dp_mono (n T : Nat) : ∀ i j : Nat, j < i → i < 2 ^ z_ct n T → z_dp n T j < z_dp n T i
  | 0, j, h, _ => absurd h (Nat.not_lt_zero j)
  | i + 1, j, h, hi => by
    have h1 := z_dp_up n T i hi
    by_cases c : j = i
    · rw [c]
      exact h1
    · exact Nat.lt_trans (z_dp_mono n T i j (by omega) (by omega)) h1
/-- how many of the first bits stand -/
def z_cp (v : Nat) : Nat → Nat
  | 0 => 0
  | i + 1 => z_cp v i + v / 2 ^ i % 2
theorem z_cpS (v i : Nat) : z_cp v (i + 1) = z_cp v i + v / 2 ^ i % 2 := rfl
theorem z_cp_s : ∀ n v : Nat, z_cp v (n + 1) = v % 2 + z_cp (v / 2) n
  | 0, v => by
    rw [z_cpS, z_b0s]
    show 0 + v % 2 = v % 2 + 0
    omega
  | n + 1, v => by
    rw [z_cpS, z_cp_s n v, z_b1s, z_cpS]
    omega
theorem z_ct_cp : ∀ n v : Nat, z_ct n v = z_cp v n
  | 0, _ => rfl
  | n + 1, v => by rw [z_cp_s, z_ctS, z_ct_cp n]
theorem z_cp_hi {v : Nat} (h : v < 1024) : ∀ m, z_cp v (10 + m) = z_cp v 10
  | 0 => rfl
  | m + 1 => by
    have e : z_cp v (10 + (m + 1)) = z_cp v (10 + m) + v / 2 ^ (10 + m) % 2 := rfl
    rw [e, z_hi0 h (by omega), z_cp_hi h m]
    rfl
theorem z_cp_T {y n : Nat} (hy : y < 1024) : ∀ i, z_cp (y + 1024 * n) (10 + i) = z_cp y 10 + z_cp n i := by
  have h0 : ∀ i, i ≤ 10 → z_cp (y + 1024 * n) i = z_cp y i := by
    intro i
    induction i with
    | zero => exact fun _ => rfl
    | succ i ih =>
      intro hi
      rw [z_cpS, z_cpS, ih (by omega), z_dbl (by omega)]
  intro i
  induction i with
  | zero => exact h0 10 (Nat.le_refl _)
  | succ i ih =>
    have e : z_cp (y + 1024 * n) (10 + (i + 1)) = z_cp (y + 1024 * n) (10 + i) + (y + 1024 * n) / 2 ^ (10 + i) % 2 := rfl
    rw [e, ih, z_cpS n i, Nat.add_comm 10 i, z_dbh hy]
    omega
/-- of two that have no bit in common: at most as many as there are questions -/
theorem z_cp_q {y n q : Nat} (h : ∀ k, y / 2 ^ k % 2 = 1 → n / 2 ^ k % 2 = 0) (hy : y < 2 ^ q) (hn : n < 2 ^ q) : ∀ i, z_cp y i + z_cp n i ≤ i ∧ z_cp y i + z_cp n i ≤ q := by
  intro i
  induction i with
  | zero => exact ⟨Nat.le_refl _, Nat.zero_le _⟩
  | succ i ih =>
    rw [z_cpS, z_cpS]
    by_cases c : i < q
    · have h1 := h i
      have h2 := z_m2c (y / 2 ^ i)
      have h3 := z_m2c (n / 2 ^ i)
      generalize y / 2 ^ i % 2 = a at *
      generalize n / 2 ^ i % 2 = b at *
      rcases h2 with h2 | h2
      · omega
      · have := h1 h2
        omega
    · have h2 : 2 ^ q ≤ 2 ^ i := Nat.pow_le_pow_right (n := 2) (by decide) (by omega)
      rw [Nat.div_eq_of_lt (Nat.lt_of_lt_of_le hy h2), Nat.div_eq_of_lt (Nat.lt_of_lt_of_le hn h2)]
      omega
/-- parts -/
def z_pof (b T : Nat) : Prop := ∀ k, b / 2 ^ k % 2 = 1 → T / 2 ^ k % 2 = 1
theorem z_pof.bit {b T : Nat} (h : z_pof b T) (k : Nat) : b / 2 ^ k % 2 ≤ T / 2 ^ k % 2 := by
  have h1 := h k
  have h2 := z_m2c (b / 2 ^ k)
  generalize b / 2 ^ k % 2 = x at *
  generalize T / 2 ^ k % 2 = y at *
  rcases h2 with h2 | h2
  · omega
  · have := h1 h2
    omega
theorem z_pof.cp {b T : Nat} (h : z_pof b T) : ∀ i, z_cp b i ≤ z_cp T i := by
  intro i
  induction i with
  | zero => exact Nat.le_refl _
  | succ i ih =>
    have := h.bit i
    rw [z_cpS, z_cpS]
    omega
theorem z_pof.all {b T : Nat} (h : z_pof b T) : ∀ i, z_cp b i = z_cp T i → ∀ k, k < i → b / 2 ^ k % 2 = T / 2 ^ k % 2 := by
  intro i
  induction i with
  | zero => exact fun _ k hk => absurd hk (Nat.not_lt_zero k)
  | succ i ih =>
    intro e k hk
    have h1 := h.bit i
    have h2 := h.cp i
    rw [z_cpS, z_cpS] at e
    by_cases c : k = i
    · rw [c]
      omega
    · exact ih (by omega) k (by omega)
theorem z_pof.eq {b T i : Nat} (h : z_pof b T) (hb : b < 2 ^ i) (hT : T < 2 ^ i) (e : z_cp b i = z_cp T i) : b = T := z_beq hb hT fun k hk => by rw [h.all i e k hk]
theorem z_land_bit (a b k : Nat) : (a &&& b) / 2 ^ k % 2 = 1 ↔ a / 2 ^ k % 2 = 1 ∧ b / 2 ^ k % 2 = 1 := by
  have h := Nat.testBit_and a b k
  rw [Nat.testBit_eq_decide_div_mod_eq, Nat.testBit_eq_decide_div_mod_eq, Nat.testBit_eq_decide_div_mod_eq] at h
  rw [← decide_eq_true_eq (p := (a &&& b) / 2 ^ k % 2 = 1), h, Bool.and_eq_true, decide_eq_true_eq, decide_eq_true_eq]
  all_goals exact Iff.rfl
theorem z_lor_bit (a b k : Nat) : (a ||| b) / 2 ^ k % 2 = 1 ↔ a / 2 ^ k % 2 = 1 ∨ b / 2 ^ k % 2 = 1 := by
  have h := Nat.testBit_or a b k
  rw [Nat.testBit_eq_decide_div_mod_eq, Nat.testBit_eq_decide_div_mod_eq, Nat.testBit_eq_decide_div_mod_eq] at h
  rw [← decide_eq_true_eq (p := (a ||| b) / 2 ^ k % 2 = 1), h, Bool.or_eq_true, decide_eq_true_eq, decide_eq_true_eq]
  all_goals exact Iff.rfl
theorem z_beqA {a b : Nat} (h : ∀ i, (a / 2 ^ i % 2 = 1 ↔ b / 2 ^ i % 2 = 1)) : a = b := by
  apply Nat.eq_of_testBit_eq
  intro i
  rw [Nat.testBit_eq_decide_div_mod_eq, Nat.testBit_eq_decide_div_mod_eq]
  exact decide_eq_decide.mpr (h i)
theorem z_pof.le {b T : Nat} (h : z_pof b T) : b ≤ T := by
  have e : b &&& T = b := z_beqA fun i => by
    rw [z_land_bit]
    exact ⟨fun a => a.1, fun a => ⟨a, h i a⟩⟩
  rw [← e]
  exact Nat.and_le_right
/-! the smallest part that can't stand -/
def z_fal (B : Nat → Nat) (q b : Nat) : Prop := ¬ z_cs B q (b % 1024) (b / 1024)
def z_lex (x b : Nat) : Prop := z_cp x 32 < z_cp b 32 ∨ (z_cp x 32 = z_cp b 32 ∧ x ≤ b)
def z_smf (B : Nat → Nat) (q T x : Nat) : Prop := z_pof x T ∧ z_fal B q x ∧ ∀ b, z_pof b T → z_fal B q b → z_lex x b
/-- under way: the parts below the i-th are gone through -/
def z_sfi (B : Nat → Nat) (q T i p x f : Nat) : Prop := p = z_dp 32 T i ∧ i < 2 ^ z_ct 32 T ∧ z_pof x T ∧ z_fal B q x ∧ f = z_cp x 32 ∧ (∀ b, z_pof b T → z_fal B q b → b < p → z_lex x b) ∧ (x < p ∨ x = T)
section ZSF
variable {B : Nat → Nat} {q T i p x f : Nat}
theorem z_sfi0 {i0 p0 : Int32} (hi : i0.toInt = 0) (hp : p0.toInt = 0) (hf : f = z_cp T 32) (hT : z_fal B q T) : z_sfi B q T i0.toInt.toNat p0.toInt.toNat T f := by
  rw [hi, hp]
  exact ⟨(z_dp_0 32 T).symm, Nat.two_pow_pos _, fun _ h => h, hT, hf, fun b _ _ h => absurd h (Nat.not_lt_zero b), Or.inr rfl⟩
theorem z_sfi_nx (h : z_sfi B q T i p x f) (hT : T < 2 ^ 32) (hp : p ≠ T) : i + 1 < 2 ^ z_ct 32 T := by
  obtain ⟨h1, h2, _⟩ := h
  by_cases c : i + 1 = 2 ^ z_ct 32 T
  · rw [z_dp_last 32 T i hT c] at h1
    exact absurd h1 hp
  · generalize 2 ^ z_ct 32 T = P at *
    omega
theorem z_sfi_lt {b : Nat} (hT : T < 2 ^ 32) (hi : i + 1 < 2 ^ z_ct 32 T) (hb : z_pof b T) (h : b < z_dp 32 T (i + 1)) : b ≤ z_dp 32 T i := by
  obtain ⟨j, h1, h2⟩ := z_dp_ex 32 T b (Nat.lt_of_le_of_lt hb.le hT) hb
  rw [← h2] at h ⊢
  by_cases c : j < i
  · exact Nat.le_of_lt (z_dp_mono 32 T i j c (by omega))
  · by_cases c2 : j = i
    · rw [c2]
      exact Nat.le_refl _
    · by_cases c3 : j = i + 1
      · rw [c3] at h
        exact absurd h (Nat.lt_irrefl _)
      · exact absurd (Nat.lt_trans h (z_dp_mono 32 T j (i + 1) (by omega) h1)) (Nat.lt_irrefl _)
/-- the part is taken -/
theorem z_sfiA {f2 : Nat} (h : z_sfi B q T i p x f) (hT : T < 2 ^ 32) (hp : p ≠ T) (hf : f2 = z_cp p 32) (hl : f2 < f) (hF : z_fal B q p) : z_sfi B q T (i + 1) (z_dp 32 T (i + 1)) p f2 := by
  have hn := z_sfi_nx h hT hp
  obtain ⟨h1, h2, h3, h4, h5, h6, h7⟩ := h
  refine ⟨rfl, hn, fun k a => ?_, hF, hf, fun b g1 g2 g3 => ?_, Or.inl ?_⟩
  · rw [h1] at a
    exact z_dp_sub 32 T i k a
  · have g4 := z_sfi_lt hT hn g1 g3
    rw [← h1] at g4
    by_cases c : b = p
    · rw [c]
      exact Or.inr ⟨rfl, Nat.le_refl _⟩
    · have g5 := h6 b g1 g2 (by omega)
      unfold z_lex at *
      omega
  · rw [h1]
    exact z_dp_up 32 T i hn
/-- the part is left -/
theorem z_sfiB {f2 : Nat} (h : z_sfi B q T i p x f) (hT : T < 2 ^ 32) (hp : p ≠ T) (hf : f2 = z_cp p 32) (hl : f ≤ f2 ∨ ¬ z_fal B q p) : z_sfi B q T (i + 1) (z_dp 32 T (i + 1)) x f := by
  have hn := z_sfi_nx h hT hp
  obtain ⟨h1, h2, h3, h4, h5, h6, h7⟩ := h
  have hsp : z_pof p T := fun k a => by
    rw [h1] at a
    exact z_dp_sub 32 T i k a
  have hup : p < z_dp 32 T (i + 1) := by
    rw [h1]
    exact z_dp_up 32 T i hn
  refine ⟨rfl, hn, h3, h4, h5, fun b g1 g2 g3 => ?_, ?_⟩
  · have g4 := z_sfi_lt hT hn g1 g3
    rw [← h1] at g4
    by_cases c : b = p
    · rw [c] at g2 ⊢
      rcases hl with hl | hl
      · by_cases c2 : z_cp x 32 < z_cp p 32
        · exact Or.inl c2
        · refine Or.inr ⟨by omega, ?_⟩
          rcases h7 with h7 | h7
          · omega
          · have e := hsp.eq (i := 32) (Nat.lt_of_le_of_lt hsp.le hT) hT (by have := hsp.cp 32; rw [h7] at h5 c2; omega)
            exact absurd e hp
      · exact absurd g2 hl
    · exact h6 b g1 g2 (by omega)
  · rcases h7 with h7 | h7
    · exact Or.inl (by omega)
    · exact Or.inr h7
/-- all are gone through -/
theorem z_sfiE {m : Nat} (h : z_sfi B q T i p x f) (hT : T < 2 ^ 32) (he : p = T ∨ 2 ^ m ≤ i) (hm : z_ct 32 T ≤ m) : z_smf B q T x := by
  obtain ⟨h1, h2, h3, h4, h5, h6, h7⟩ := h
  have hp : p = T := by
    rcases he with he | he
    · exact he
    · have h8 : 2 ^ z_ct 32 T ≤ 2 ^ m := Nat.pow_le_pow_right (n := 2) (by decide) hm
      generalize 2 ^ z_ct 32 T = P at *
      generalize 2 ^ m = Q at *
      omega
  refine ⟨h3, h4, fun b g1 g2 => ?_⟩
  by_cases c : b = T
  · rw [c]
    have h8 := h3.cp 32
    have h9 := h3.le
    unfold z_lex
    omega
  · have := g1.le
    exact h6 b g1 g2 (by omega)
theorem z_smfU {x2 : Nat} (h : z_smf B q T x) (h2 : z_smf B q T x2) : x = x2 := by
  have a := h.2.2 x2 h2.1 h2.2.1
  have b := h2.2.2 x h.1 h.2.1
  unfold z_lex at *
  omega
end ZSF
