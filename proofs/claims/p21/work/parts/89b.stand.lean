/-! told answers that can stand -/
theorem z_dbl {y n k : Nat} (hk : k < 10) : (y + 1024 * n) / 2 ^ k % 2 = y / 2 ^ k % 2 := by
  match k, hk with
  | 0, _ => show (y + 1024 * n) / 1 % 2 = y / 1 % 2; omega
  | 1, _ => show (y + 1024 * n) / 2 % 2 = y / 2 % 2; omega
  | 2, _ => show (y + 1024 * n) / 4 % 2 = y / 4 % 2; omega
  | 3, _ => show (y + 1024 * n) / 8 % 2 = y / 8 % 2; omega
  | 4, _ => show (y + 1024 * n) / 16 % 2 = y / 16 % 2; omega
  | 5, _ => show (y + 1024 * n) / 32 % 2 = y / 32 % 2; omega
  | 6, _ => show (y + 1024 * n) / 64 % 2 = y / 64 % 2; omega
  | 7, _ => show (y + 1024 * n) / 128 % 2 = y / 128 % 2; omega
  | 8, _ => show (y + 1024 * n) / 256 % 2 = y / 256 % 2; omega
  | 9, _ => show (y + 1024 * n) / 512 % 2 = y / 512 % 2; omega
theorem z_dbh {y n k : Nat} (hy : y < 1024) : (y + 1024 * n) / 2 ^ (k + 10) % 2 = n / 2 ^ k % 2 := by
  rw [Nat.pow_add, Nat.mul_comm (2 ^ k) (2 ^ 10), ← Nat.div_div_eq_div_mul]
  show (y + 1024 * n) / 1024 / 2 ^ k % 2 = n / 2 ^ k % 2
  rw [show (y + 1024 * n) / 1024 = n by omega]
section ZG1
variable {P : Nat → Prop} {Q : Nat → Nat → Prop} {y n x : Nat} {v v1 u u2 : Int64} {a : Int32}
end ZG1
section ZG2
variable {B : Nat → Nat} {q m y n b : Nat} {Y : Nat → Int64} {v : Int64}
end ZG2
/-- yes and no ones of all questions, none both -/
def z_ans (q : Nat) (y n : Int32) : Prop := (0 ≤ y.toInt ∧ y.toInt < ((2 ^ q : Nat) : Int)) ∧ (0 ≤ n.toInt ∧ n.toInt < ((2 ^ q : Nat) : Int)) ∧ (y &&& n).toInt = 0
theorem z_ans.lt {q : Nat} {y n : Int32} (h : z_ans q y n) (q10 : q ≤ 10) : (0 ≤ y.toInt ∧ y.toInt < 1024 ∧ y.toInt.toNat < 2 ^ q) ∧ (0 ≤ n.toInt ∧ n.toInt < 1024 ∧ n.toInt.toNat < 2 ^ q) := by
  have hP : 2 ^ q ≤ 1024 := Nat.pow_le_pow_right (n := 2) (by decide) q10
  obtain ⟨h1, h2, _⟩ := h
  generalize 2 ^ q = P at *
  exact ⟨⟨by omega, by omega, by omega⟩, by omega, by omega, by omega⟩
