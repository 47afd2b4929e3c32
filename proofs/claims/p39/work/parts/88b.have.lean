/-! told answers and the sets that have them, bit by bit -/
theorem z_m1b : ∀ i, i < 32 → ((-1 : Int32)).toBitVec.getLsbD i = true := by decide +kernel
theorem z_0b : ∀ i, i < 32 → ((0 : Int32)).toBitVec.getLsbD i = false := by decide +kernel
theorem z_bt32 {x : Int32} (h : 0 ≤ x.toInt) (i : Nat) : x.toBitVec.getLsbD i = true ↔ x.toInt.toNat / 2 ^ i % 2 = 1 := by
  have h1 := z_nn h
  have e : x.toInt.toNat = x.toBitVec.toNat := by omega
  rw [e]
  show x.toBitVec.toNat.testBit i = true ↔ _
  rw [Nat.testBit_eq_decide_div_mod_eq, decide_eq_true_eq]
theorem z_z32 {v : Int32} : v.toInt = 0 ↔ ∀ i, i < 32 → v.toBitVec.getLsbD i = false := by
  refine ⟨fun h i hi => ?_, fun h => ?_⟩
  · have e : v = 0 := Int32.toInt_inj.mp (h.trans rfl)
    rw [e]
    exact z_0b i hi
  · have h2 : v.toBitVec = (0 : Int32).toBitVec := by
      apply BitVec.eq_of_getLsbD_eq
      intro i hi
      rw [h i hi, z_0b i hi]
    show v.toBitVec.toInt = 0
    exact (congrArg BitVec.toInt h2).trans rfl
theorem z_m2c (x : Nat) : x % 2 = 0 ∨ x % 2 = 1 := by omega
theorem z_m2n {x : Nat} (h : ¬ x % 2 = 1) : x % 2 = 0 := by omega
theorem z_hi0 {x k : Nat} (h : x < 1024) (hk : 10 ≤ k) : x / 2 ^ k % 2 = 0 := by
  have h2 : 1024 ≤ 2 ^ k := Nat.pow_le_pow_right (n := 2) (by decide) hk
  rw [Nat.div_eq_of_lt (Nat.lt_of_lt_of_le h h2)]
theorem z_hi9 {x k : Nat} (h : x < 1024) (hk : x / 2 ^ k % 2 = 1) : k < 10 := by
  by_cases c : k < 10
  · exact c
  · rw [z_hi0 h (by omega)] at hk
    cases hk
/-- a set that has told answers: yes ones, no ones -/
def z_has (s y n : Nat) : Prop := ∀ k, k < 10 → (y / 2 ^ k % 2 = 1 → s / 2 ^ k % 2 = 1) ∧ (n / 2 ^ k % 2 = 1 → s / 2 ^ k % 2 = 0)
section ZH1
variable {w v v1 u u2 : Int64} {y n x q b : Nat} {a : Int32}
end ZH1
/-! ties that sets with told answers break -/
section ZH2
variable {B : Nat → Nat} {q t y n b x β : Nat} {u v l r : Int64}
end ZH2
/-- numbers of like bits -/
theorem z_beq {a b t : Nat} (ha : a < 2 ^ t) (hb : b < 2 ^ t) (h : ∀ i, i < t → (a / 2 ^ i % 2 = 1 ↔ b / 2 ^ i % 2 = 1)) : a = b := by
  apply Nat.eq_of_testBit_eq
  intro i
  by_cases c : i < t
  · have h1 := h i c
    rw [Nat.testBit_eq_decide_div_mod_eq, Nat.testBit_eq_decide_div_mod_eq]
    exact decide_eq_decide.mpr h1
  · have h2 : 2 ^ t ≤ 2 ^ i := Nat.pow_le_pow_right (by decide) (by omega)
    rw [Nat.testBit_lt_two_pow (Nat.lt_of_lt_of_le ha h2), Nat.testBit_lt_two_pow (Nat.lt_of_lt_of_le hb h2)]
