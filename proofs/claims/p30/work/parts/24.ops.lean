/-! what the operations on numbers give -/
theorem z_pAdd {x y : Int32} {p q : Int} (hx : x.toInt = p) (hy : y.toInt = q) (l : -2147483648 ≤ p + q) (u : p + q ≤ 2147483647) : (x + y).toInt = p + q := by
  rw [Int32.toInt_add, hx, hy, Int.bmod_eq_of_le (by omega) (by omega)]
theorem z_pSub {x y : Int32} {p q : Int} (hx : x.toInt = p) (hy : y.toInt = q) (l : -2147483648 ≤ p - q) (u : p - q ≤ 2147483647) : (x - y).toInt = p - q := by
  rw [Int32.toInt_sub, hx, hy, Int.bmod_eq_of_le (by omega) (by omega)]
theorem z_pMul {x y : Int32} {p q : Int} (hx : x.toInt = p) (hy : y.toInt = q) (l : -2147483648 ≤ p * q) (u : p * q ≤ 2147483647) : (x * y).toInt = p * q := by
  rw [Int32.toInt_mul, hx, hy, Int.bmod_eq_of_le (by omega) (by omega)]
theorem z_pMulB {x y : Int32} {p q : Int} {a b c : Int} (hx : x.toInt = p) (hy : y.toInt = q) (h1 : 0 ≤ p) (h2 : p ≤ a) (h3 : 0 ≤ q) (h4 : q ≤ b) (hc : a * b = c) (h5 : c ≤ 2147483647) : (x * y).toInt = p * q ∧ 0 ≤ (x * y).toInt ∧ (x * y).toInt ≤ c := by
  have e1 : 0 ≤ p * q := Int.mul_nonneg h1 h3
  have e2 : p * q ≤ a * b := Int.mul_le_mul h2 h4 h3 (Int.le_trans h1 h2)
  have e3 := z_pMul hx hy (by omega) (by omega)
  rw [e3]
  exact ⟨rfl, e1, by omega⟩
theorem z_nn {x : Int32} (h : 0 ≤ x.toInt) : x.toInt = x.toBitVec.toNat ∧ x.toBitVec.toNat < 2147483648 := by
  have h1 : x.toInt = x.toBitVec.toInt := rfl
  have h2 := x.toBitVec.isLt
  rw [h1] at h ⊢
  rw [BitVec.toInt_eq_toNat_cond] at h ⊢
  split at h <;> split <;> omega
theorem z_nb {x : Int32} (h : x.toBitVec.toNat < 2147483648) : x.toInt = x.toBitVec.toNat := by
  have h1 : x.toInt = x.toBitVec.toInt := rfl
  rw [h1, BitVec.toInt_eq_toNat_cond]
  split <;> omega
theorem z_pAnd {x y : Int32} {q : Int} (hy : y.toInt = q) (h0 : 0 ≤ q) : 0 ≤ (x &&& y).toInt ∧ (x &&& y).toInt ≤ q := by
  subst hy
  obtain ⟨h1, h2⟩ := z_nn h0
  have e1 : (x &&& y).toBitVec.toNat = x.toBitVec.toNat &&& y.toBitVec.toNat := by rw [Int32.toBitVec_and, BitVec.toNat_and]
  have e2 : x.toBitVec.toNat &&& y.toBitVec.toNat ≤ y.toBitVec.toNat := Nat.and_le_right
  have e3 := z_nb (x := x &&& y) (by omega)
  omega
theorem z_pAndL {x y : Int32} {p : Int} (hx : x.toInt = p) (h0 : 0 ≤ p) : 0 ≤ (x &&& y).toInt ∧ (x &&& y).toInt ≤ p := by
  subst hx
  obtain ⟨h1, h2⟩ := z_nn h0
  have e1 : (x &&& y).toBitVec.toNat = x.toBitVec.toNat &&& y.toBitVec.toNat := by rw [Int32.toBitVec_and, BitVec.toNat_and]
  have e2 : x.toBitVec.toNat &&& y.toBitVec.toNat ≤ x.toBitVec.toNat := Nat.and_le_left
  have e3 := z_nb (x := x &&& y) (by omega)
  omega
theorem z_pAnd2 {x y : Int32} {p q : Int} (hx : x.toInt = p) (hy : y.toInt = q) (h0 : 0 ≤ p) (h1 : 0 ≤ q) : 0 ≤ (x &&& y).toInt ∧ (x &&& y).toInt ≤ p ∧ (x &&& y).toInt ≤ q := ⟨(z_pAnd hy h1).1, (z_pAndL hx h0).2, (z_pAnd hy h1).2⟩
theorem z_pOr {x y : Int32} {p q c : Int} (k : Nat) (hx : x.toInt = p) (hy : y.toInt = q) (h0 : 0 ≤ p) (h1 : 0 ≤ q) (hc : (2 ^ k : Nat) = c) (h2 : p < c) (h3 : q < c) (h4 : c ≤ 2147483648) : 0 ≤ (x ||| y).toInt ∧ (x ||| y).toInt < c ∧ p ≤ (x ||| y).toInt ∧ q ≤ (x ||| y).toInt := by
  subst hx hy hc
  obtain ⟨a1, a2⟩ := z_nn h0
  obtain ⟨b1, b2⟩ := z_nn h1
  have e1 : (x ||| y).toBitVec.toNat = x.toBitVec.toNat ||| y.toBitVec.toNat := by rw [Int32.toBitVec_or, BitVec.toNat_or]
  have e2 : x.toBitVec.toNat ||| y.toBitVec.toNat < 2 ^ k := Nat.or_lt_two_pow (by omega) (by omega)
  have e4 : x.toBitVec.toNat ≤ x.toBitVec.toNat ||| y.toBitVec.toNat := Nat.left_le_or
  have e5 : y.toBitVec.toNat ≤ x.toBitVec.toNat ||| y.toBitVec.toNat := Nat.right_le_or
  have e3 := z_nb (x := x ||| y) (by omega)
  omega
/-- the shift's width: the low five bits -/
theorem z_w5 (y : Int32) : ((y &&& 31).toBitVec.smod 32).toNat = y.toBitVec.toNat % 32 := by
  have h1 : (y &&& 31).toBitVec.toNat = y.toBitVec.toNat % 32 := by
    rw [Int32.toBitVec_and, BitVec.toNat_and]
    exact Nat.and_two_pow_sub_one_eq_mod _ 5
  have h2 : (y &&& 31).toBitVec.toNat < 32 := by omega
  obtain ⟨v, hv⟩ : ∃ v, (y &&& 31).toBitVec = v := ⟨_, rfl⟩
  rw [hv] at h1 h2 ⊢
  rw [← h1]
  have : ∀ n, n < 32 → ((BitVec.ofNat 32 n).smod 32).toNat = n := by decide
  have h3 := this v.toNat h2
  rw [BitVec.ofNat_toNat, BitVec.setWidth_eq] at h3
  exact h3
theorem z_pShr {x y : Int32} {p : Int} (k : Nat) {c : Nat} (hx : x.toInt = p) (hy : y.toBitVec.toNat % 32 = k) (hc : 2 ^ k = c) : (x >>> (y &&& 31)).toInt = p / (c : Int) := by
  rw [pk_shr x (y &&& 31) k ((z_w5 y).trans hy), hx, Int.shiftRight_eq_div_pow, hc]
theorem z_pShrN {x y : Int32} {p : Int} (hx : x.toInt = p) (h0 : 0 ≤ p) : 0 ≤ (x >>> (y &&& 31)).toInt ∧ (x >>> (y &&& 31)).toInt ≤ p := by
  rw [z_pShr (y.toBitVec.toNat % 32) hx rfl rfl]
  have h2 : 0 < 2 ^ (y.toBitVec.toNat % 32) := Nat.two_pow_pos _
  exact ⟨Int.ediv_nonneg h0 (by omega), Int.ediv_le_self _ h0⟩
theorem z_pShl {x y : Int32} {p r : Int} (k : Nat) {c : Nat} (hx : x.toInt = p) (hy : y.toInt = k) (hk : k < 32) (hc : 2 ^ k = c) (h0 : 0 ≤ p) (hr : p * c = r) (h1 : r ≤ 2147483647) : (x <<< (y &&& 31)).toInt = r := by
  subst hx hc
  have hy0 : 0 ≤ y.toInt := by omega
  obtain ⟨a1, a2⟩ := z_nn h0
  obtain ⟨b1, b2⟩ := z_nn hy0
  have e0 : y.toBitVec.toNat % 32 = k := by omega
  have e1 := pk_shl x (y &&& 31) k ((z_w5 y).trans e0)
  rw [a1] at hr
  have hr2 : ((x.toBitVec.toNat * 2 ^ k : Nat) : Int) = r := by rw [← hr]; push_cast; rfl
  have e2 : x.toBitVec.toNat * 2 ^ k < 2 ^ 32 := by omega
  rw [Nat.mod_eq_of_lt e2] at e1
  have e3 := z_nb (x := x <<< (y &&& 31)) (by omega)
  omega
theorem z_pShlB {x y : Int32} {p q a : Int} {b c r : Nat} (hx : x.toInt = p) (hy : y.toInt = q) (h0 : 0 ≤ p) (h1 : p ≤ a) (h2 : 0 ≤ q) (h3 : q ≤ b) (hb : b < 32) (hc : 2 ^ b = c) (hr : a * (c : Int) = r) (h4 : r ≤ 2147483647) : p ≤ (x <<< (y &&& 31)).toInt ∧ (x <<< (y &&& 31)).toInt ≤ r := by
  subst hc
  obtain ⟨k, hk⟩ : ∃ k : Nat, q = k := ⟨q.toNat, by omega⟩
  have hkb : k ≤ b := by omega
  have e1 : (2 ^ k : Nat) ≤ 2 ^ b := Nat.pow_le_pow_right (by decide) hkb
  have e4 : 1 ≤ (2 ^ k : Nat) := Nat.two_pow_pos k
  have e2 : p * ((2 ^ k : Nat) : Int) ≤ a * ((2 ^ b : Nat) : Int) := Int.mul_le_mul h1 (by omega) (by omega) (by omega)
  have e5 : p * 1 ≤ p * ((2 ^ k : Nat) : Int) := Int.mul_le_mul_of_nonneg_left (by omega) h0
  have e3 := z_pShl (x := x) (y := y) k hx (hy.trans hk) (by omega) rfl h0 rfl (by omega)
  omega
theorem z_pDiv {x y : Int32} {p q : Int} (hx : x.toInt = p) (hy : y.toInt = q) (h0 : 0 ≤ p) (h1 : 0 < q) : (x / y).toInt = p / q ∧ 0 ≤ (x / y).toInt ∧ (x / y).toInt ≤ p := by
  have e1 : (x / y).toInt = p / q := by
    rw [Int32.toInt_div, hx, hy, Int.tdiv_eq_ediv_of_nonneg h0]
    have a1 := Int.ediv_nonneg h0 (Int.le_of_lt h1)
    have a2 := Int.ediv_le_self q h0
    have a3 := (z_nn (x := x) (by omega)).2
    have a4 := (z_nn (x := x) (by omega)).1
    exact Int.bmod_eq_of_le (by omega) (by omega)
  rw [e1]
  exact ⟨rfl, Int.ediv_nonneg h0 (Int.le_of_lt h1), Int.ediv_le_self q h0⟩
theorem z_pRem {x y : Int32} {p q : Int} (hx : x.toInt = p) (hy : y.toInt = q) (h0 : 0 ≤ p) (h1 : 0 < q) : (x - x / y * y).toInt = p % q ∧ 0 ≤ (x - x / y * y).toInt ∧ (x - x / y * y).toInt < q ∧ (x - x / y * y).toInt ≤ p := by
  obtain ⟨e1, e2, e3⟩ := z_pDiv hx hy h0 h1
  have a1 := Int.ediv_mul_le p (Int.ne_of_gt h1)
  have a2 : 0 ≤ p / q * q := Int.mul_nonneg (Int.ediv_nonneg h0 (Int.le_of_lt h1)) (Int.le_of_lt h1)
  have a3 := (z_nn (x := x) (by omega)).2
  have a4 := (z_nn (x := x) (by omega)).1
  have e4 := z_pMul e1 hy (by omega) (by omega)
  have e5 := z_pSub hx e4 (by omega) (by omega)
  have e6 : p - p / q * q = p % q := by have := Int.emod_def p q; rw [Int.mul_comm q] at this; omega
  have e7 := Int.emod_nonneg p (Int.ne_of_gt h1)
  have e8 := Int.emod_lt_of_pos p h1
  rw [e5, e6]
  refine ⟨rfl, e7, e8, by omega⟩
/-- longs -/
theorem z_qI2L {x : Int32} {p : Int} (hx : x.toInt = p) : x.toInt64.toInt = p := by rw [Int32.toInt_toInt64]; exact hx
theorem z_qL2I {x : Int64} {p : Int} (hx : x.toInt = p) (l : -2147483648 ≤ p) (u : p ≤ 2147483647) : x.toInt32.toInt = p := by
  rw [Int64.toInt_toInt32, hx, Int.bmod_eq_of_le (by omega) (by omega)]
theorem z_qAdd {x y : Int64} {p q : Int} (hx : x.toInt = p) (hy : y.toInt = q) (l : -9223372036854775808 ≤ p + q) (u : p + q ≤ 9223372036854775807) : (x + y).toInt = p + q := by
  rw [Int64.toInt_add, hx, hy, Int.bmod_eq_of_le (by omega) (by omega)]
theorem z_qCmp {x y : Int64} {p q : Int} (hx : x.toInt = p) (hy : y.toInt = q) : ((lg_cmp x y).toInt < 0 ∧ p < q) ∨ ((lg_cmp x y).toInt = 0 ∧ p = q) ∨ (0 < (lg_cmp x y).toInt ∧ q < p) := by
  subst hx hy
  have h1 := lg_cmp_lt x y
  have h2 := lg_cmp_gt x y
  rw [Int32.lt_iff_toInt_lt, Int64.lt_iff_toInt_lt, show (0 : Int32).toInt = 0 from rfl] at h1 h2
  omega
