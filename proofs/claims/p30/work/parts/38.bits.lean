/-! at most 64 of 64 bits are set: the count's three masked steps, byte by byte -/
theorem z_andb {a A m K : Nat} (ha : a < 256) (hm : m < 256) : (a + 256 * A) &&& (m + 256 * K) = (a &&& m) + 256 * (A &&& K) := by
  have h : ∀ (x X i : Nat), x < 256 → (x + 256 * X).testBit i = if i < 8 then x.testBit i else X.testBit (i - 8) := fun x X i hx => by
    rw [Nat.add_comm]
    exact Nat.testBit_two_pow_mul_add (i := 8) X hx i
  apply Nat.eq_of_testBit_eq
  intro i
  rw [Nat.testBit_and, h a A i ha, h m K i hm, h (a &&& m) (A &&& K) i (Nat.lt_of_le_of_lt Nat.and_le_left ha)]
  split
  · rw [Nat.testBit_and]
  · rw [Nat.testBit_and]
def z_kb (m : Nat) : Nat → Nat
  | 0 => 0
  | k + 1 => m + 256 * z_kb m k
def z_bA (k n : Nat) : Nat := n - (n / 2 &&& z_kb 85 k)
def z_bB (k n : Nat) : Nat := (z_bA k n &&& z_kb 51 k) + (z_bA k n / 4 &&& z_kb 51 k)
def z_bC (k n : Nat) : Nat := (z_bB k n + z_bB k n / 16) &&& z_kb 15 k
def z_dg : Nat → Nat → Prop
  | 0, C => C = 0
  | k + 1, C => ∃ c C1, c ≤ 8 ∧ C = c + 256 * C1 ∧ z_dg k C1
theorem z_b1 : ∀ b : Nat, b < 256 → ∀ e : Nat, e < 2 → (b / 2 + 128 * e) &&& 85 = b / 2 &&& 85 := by decide +kernel
theorem z_b2 : ∀ b : Nat, b < 256 → ∀ e : Nat, e < 4 → (b / 4 + 64 * e) &&& 51 = b / 4 &&& 51 := by decide +kernel
theorem z_b3 : ∀ b : Nat, b < 256 → ((b - (b / 2 &&& 85) &&& 51) + ((b - (b / 2 &&& 85)) / 4 &&& 51)) % 16 ≤ 6 ∧ ((b - (b / 2 &&& 85) &&& 51) + ((b - (b / 2 &&& 85)) / 4 &&& 51)) < 112 := by decide +kernel
theorem z_b4 : ∀ b : Nat, b < 256 → ∀ e : Nat, e < 7 → (((b - (b / 2 &&& 85) &&& 51) + ((b - (b / 2 &&& 85)) / 4 &&& 51)) + ((b - (b / 2 &&& 85) &&& 51) + ((b - (b / 2 &&& 85)) / 4 &&& 51)) / 16 + 16 * e) &&& 15 ≤ 8 := by decide +kernel
theorem z_bits : ∀ (k n : Nat), n < 256 ^ k → z_dg k (z_bC k n) ∧ z_bB k n % 16 ≤ 6
  | 0, n, h => by
    have : n = 0 := by have : n < 1 := h; omega
    subst this
    exact ⟨rfl, by decide⟩
  | k + 1, n, h => by
    have hn : n / 256 < 256 ^ k := Nat.div_lt_of_lt_mul (by rw [Nat.pow_succ, Nat.mul_comm] at h; exact h)
    obtain ⟨i1, i2⟩ := z_bits k (n / 256) hn
    have hb : n % 256 < 256 := Nat.mod_lt _ (by decide)
    generalize hbe : n % 256 = b at *
    generalize hne : n / 256 = n1 at *
    have e0 : n = b + 256 * n1 := by omega
    have eA : z_bA (k + 1) n = (b - (b / 2 &&& 85)) + 256 * z_bA k n1 := by
      have e1 : n / 2 = (b / 2 + 128 * (n1 % 2)) + 256 * (n1 / 2) := by omega
      have l1 : b / 2 &&& 85 ≤ b / 2 := Nat.and_le_left
      have l2 : n1 / 2 &&& z_kb 85 k ≤ n1 / 2 := Nat.and_le_left
      unfold z_bA
      rw [show z_kb 85 (k + 1) = 85 + 256 * z_kb 85 k from rfl, e1, z_andb (by omega) (by decide), z_b1 b hb _ (Nat.mod_lt _ (by decide))]
      omega
    have hal : b - (b / 2 &&& 85) < 256 := by omega
    generalize hA1 : z_bA k n1 = A1 at *
    have eB : z_bB (k + 1) n = ((b - (b / 2 &&& 85) &&& 51) + ((b - (b / 2 &&& 85)) / 4 &&& 51)) + 256 * z_bB k n1 := by
      unfold z_bB
      rw [eA, hA1]
      have e1 : (b - (b / 2 &&& 85) + 256 * A1) / 4 = ((b - (b / 2 &&& 85)) / 4 + 64 * (A1 % 4)) + 256 * (A1 / 4) := by omega
      rw [show z_kb 51 (k + 1) = 51 + 256 * z_kb 51 k from rfl, e1, z_andb hal (by decide), z_andb (by omega) (by decide), z_b2 _ hal _ (Nat.mod_lt _ (by decide))]
      omega
    obtain ⟨t1, t2⟩ := z_b3 b hb
    have t3 := z_b4 b hb (z_bB k n1 % 16) (by omega)
    generalize hbb : ((b - (b / 2 &&& 85) &&& 51) + ((b - (b / 2 &&& 85)) / 4 &&& 51)) = β at *
    refine ⟨⟨_, z_bC k n1, t3, ?_, i1⟩, by rw [eB]; omega⟩
    unfold z_bC
    rw [eB]
    generalize z_bB k n1 = B1 at *
    have e1 : β + 256 * B1 + (β + 256 * B1) / 16 = (β + β / 16 + 16 * (B1 % 16)) + 256 * (B1 + B1 / 16) := by omega
    rw [show z_kb 15 (k + 1) = 15 + 256 * z_kb 15 k from rfl, e1, z_andb (by omega) (by decide)]
/-- the three last steps add the bytes up -/
theorem z_cn1 {C C1 C2 C3 c0 c1 c2 : Nat} (g0 : c0 ≤ 8) (g1 : c1 ≤ 8) (g2 : c2 ≤ 8) (e0 : C = c0 + 256 * C1) (e1 : C1 = c1 + 256 * C2) (e2 : C2 = c2 + 256 * C3) : C / 256 = C1 ∧ (C + C1) / 65536 = C2 + C3 := by
  subst e2
  subst e1
  subst e0
  exact ⟨by omega, by omega⟩
theorem z_cn3 {C C1 C2 C3 C4 C5 C6 C7 c0 c1 c2 c3 c4 c5 c6 : Nat} (g0 : c0 ≤ 8) (g1 : c1 ≤ 8) (g2 : c2 ≤ 8) (g3 : c3 ≤ 8) (g4 : c4 ≤ 8) (g5 : c5 ≤ 8) (g6 : c6 ≤ 8) (e0 : C = c0 + 256 * C1) (e1 : C1 = c1 + 256 * C2) (e2 : C2 = c2 + 256 * C3) (e3 : C3 = c3 + 256 * C4) (e4 : C4 = c4 + 256 * C5) (e5 : C5 = c5 + 256 * C6) (e6 : C6 = c6 + 256 * C7) : (C + C1 + (C2 + C3)) / 4294967296 = C4 + C5 + C6 + C7 := by
  have h0 : C = (c0 + 256 * c1 + 65536 * c2 + 16777216 * c3) + 4294967296 * C4 := by omega
  have h1 : C1 = (c1 + 256 * c2 + 65536 * c3 + 16777216 * c4) + 4294967296 * C5 := by omega
  have h2 : C2 = (c2 + 256 * c3 + 65536 * c4 + 16777216 * c5) + 4294967296 * C6 := by omega
  have h3 : C3 = (c3 + 256 * c4 + 65536 * c5 + 16777216 * c6) + 4294967296 * C7 := by omega
  clear e0 e1 e2 e3 e4 e5 e6
  generalize hx0 : c0 + 256 * c1 + 65536 * c2 + 16777216 * c3 = x0 at *
  generalize hx1 : c1 + 256 * c2 + 65536 * c3 + 16777216 * c4 = x1 at *
  generalize hx2 : c2 + 256 * c3 + 65536 * c4 + 16777216 * c5 = x2 at *
  generalize hx3 : c3 + 256 * c4 + 65536 * c5 + 16777216 * c6 = x3 at *
  have y0 : x0 ≤ 140000000 := by omega
  have y1 : x1 ≤ 140000000 := by omega
  have y2 : x2 ≤ 140000000 := by omega
  have y3 : x3 ≤ 140000000 := by omega
  clear hx0 hx1 hx2 hx3 g0 g1 g2 g3 g4 g5 g6
  subst h0 h1 h2 h3
  omega
theorem z_cnt {C : Nat} (h : z_dg 8 C) : C < 1152921504606846976 ∧ (((C + C / 256) + (C + C / 256) / 65536) + ((C + C / 256) + (C + C / 256) / 65536) / 4294967296) % 128 ≤ 64 := by
  obtain ⟨c0, C1, g0, e0, h1⟩ : ∃ c D, c ≤ 8 ∧ C = c + 256 * D ∧ z_dg 7 D := h
  obtain ⟨c1, C2, g1, e1, h2⟩ : ∃ c D, c ≤ 8 ∧ C1 = c + 256 * D ∧ z_dg 6 D := h1
  obtain ⟨c2, C3, g2, e2, h3⟩ : ∃ c D, c ≤ 8 ∧ C2 = c + 256 * D ∧ z_dg 5 D := h2
  obtain ⟨c3, C4, g3, e3, h4⟩ : ∃ c D, c ≤ 8 ∧ C3 = c + 256 * D ∧ z_dg 4 D := h3
  obtain ⟨c4, C5, g4, e4, h5⟩ : ∃ c D, c ≤ 8 ∧ C4 = c + 256 * D ∧ z_dg 3 D := h4
  obtain ⟨c5, C6, g5, e5, h6⟩ : ∃ c D, c ≤ 8 ∧ C5 = c + 256 * D ∧ z_dg 2 D := h5
  obtain ⟨c6, C7, g6, e6, h7⟩ : ∃ c D, c ≤ 8 ∧ C6 = c + 256 * D ∧ z_dg 1 D := h6
  obtain ⟨c7, C8, g7, e7, h8⟩ : ∃ c D, c ≤ 8 ∧ C7 = c + 256 * D ∧ z_dg 0 D := h7
  have e8 : C8 = 0 := h8
  obtain ⟨d1, d2⟩ := z_cn1 g0 g1 g2 e0 e1 e2
  rw [d1, d2, z_cn3 g0 g1 g2 g3 g4 g5 g6 e0 e1 e2 e3 e4 e5 e6]
  clear d1 d2
  have b7 : C7 ≤ 8 := by clear e0 e1 e2 e3 e4 e5 e6; omega
  have b6 : C6 ≤ 2056 := by clear e0 e1 e2 e3 e4 e5 e7; omega
  have b5 : C5 ≤ 526344 := by clear e0 e1 e2 e3 e4 e6 e7; omega
  have b4 : C4 ≤ 134744072 := by clear e0 e1 e2 e3 e5 e6 e7; omega
  have b3 : C3 ≤ 34494482440 := by clear e0 e1 e2 e4 e5 e6 e7; omega
  have b2 : C2 ≤ 8830587504648 := by clear e0 e1 e3 e4 e5 e6 e7; omega
  have b1 : C1 ≤ 2260630401189896 := by clear e0 e2 e3 e4 e5 e6 e7; omega
  refine ⟨by clear e1 e2 e3 e4 e5 e6 e7; omega, ?_⟩
  have d4 : C + C1 + (C2 + C3) + (C4 + C5 + C6 + C7) = (c0 + c1 + c2 + c3 + c4 + c5 + c6 + c7) + 256 * (C1 + C2 + C3 + C4 + C5 + C6 + C7 + C8) := by clear b1 b2 b3 b4 b5 b6 b7; omega
  rw [d4]
  generalize C1 + C2 + C3 + C4 + C5 + C6 + C7 + C8 = Y
  clear e0 e1 e2 e3 e4 e5 e6 e7 b1 b2 b3 b4 b5 b6 b7 d4
  omega
/-- an unsigned reading of a long -/
def z_un (x : Int64) : Nat := x.toUInt64.toNat
theorem z_unlt (x : Int64) : z_un x < 18446744073709551616 := x.toUInt64.toNat_lt
theorem z_unand (x y : Int64) : z_un (x &&& y) = z_un x &&& z_un y := by
  unfold z_un
  rw [show (x &&& y).toUInt64 = x.toUInt64 &&& y.toUInt64 from rfl, UInt64.toNat_and]
theorem z_unadd (x y : Int64) : z_un (x + y) = (z_un x + z_un y) % 18446744073709551616 := by
  unfold z_un
  rw [show (x + y).toUInt64 = x.toUInt64 + y.toUInt64 from rfl, UInt64.toNat_add]
theorem z_unsub (x y : Int64) (h : z_un y ≤ z_un x) : z_un (x - y) = z_un x - z_un y := by
  unfold z_un at *
  rw [show (x - y).toUInt64 = x.toUInt64 - y.toUInt64 from rfl, UInt64.toNat_sub]
  have := x.toUInt64.toNat_lt
  omega
theorem z_unshr (x : Int64) {k : Int32} {u : UInt64} {c : Nat} (hk : (k.toInt64.toUInt64 &&& Int64.toUInt64 63) = u) (hc : 2 ^ (u.toNat % 64) = c) : z_un ((x.toUInt64 >>> (k.toInt64.toUInt64 &&& Int64.toUInt64 63)).toInt64) = z_un x / c := by
  unfold z_un
  rw [hk, show ((x.toUInt64 >>> u).toInt64).toUInt64 = x.toUInt64 >>> u from rfl, UInt64.toNat_shiftRight, Nat.shiftRight_eq_div_pow, hc]
theorem z_unl2i (x : Int64) : (x.toInt32 &&& 127).toInt = z_un x % 128 := by
  have h : (x.toInt32 &&& 127).toBitVec.toNat = z_un x % 128 := by
    show (BitVec.toNat ((BitVec.signExtend 32 x.toBitVec) &&& (127 : Int32).toBitVec)) = _
    rw [BitVec.toNat_and]
    have e1 : (BitVec.signExtend 32 x.toBitVec) = BitVec.setWidth 32 x.toBitVec := BitVec.signExtend_eq_setWidth_of_le _ (by decide)
    rw [e1, BitVec.toNat_setWidth]
    show x.toBitVec.toNat % 2 ^ 32 &&& 127 = x.toBitVec.toNat % 128
    rw [show (127 : Nat) = 2 ^ 7 - 1 from rfl, Nat.and_two_pow_sub_one_eq_mod]
    omega
  have h2 : (x.toInt32 &&& 127).toInt = ((x.toInt32 &&& 127).toBitVec.toNat : Int) := by
    show (x.toInt32 &&& 127).toBitVec.toInt = _
    exact BitVec.toInt_eq_toNat_of_lt (by rw [h]; omega)
  rw [h2, h]
  omega
