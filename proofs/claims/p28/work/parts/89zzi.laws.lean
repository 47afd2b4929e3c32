/-! rows of numbers and laws of them -/
/-- who has which number in row r: the first counts most -/
def z_rw (m n r : Nat) : Nat → Nat := fun j => r / m ^ (n - 1 - j) % m
theorem z_rwB {m n r : Nat} (h : 1 ≤ m) (j : Nat) : z_rw m n r j < m := Nat.mod_lt _ h
theorem z_rw0 {m n : Nat} : z_rw m n 0 = fun _ => 0 := by
  funext j
  show 0 / m ^ (n - 1 - j) % m = 0
  rw [Nat.zero_div, Nat.zero_mod]
theorem z_mk {m k : Nat} (h : m ≤ 6) (hk : k ≤ 3) : m ^ k ≤ 216 := by
  have h1 : m ^ k ≤ 6 ^ k := Nat.pow_le_pow_left h k
  have h2 : 6 ^ k ≤ 6 ^ 3 := Nat.pow_le_pow_right (by decide) hk
  have h3 : (6 : Nat) ^ 3 = 216 := rfl
  omega
/-- the next row, as the reference counts -/
def z_rwP (m n r : Nat) : Bool := decide (1 ≤ m → r < m ^ n → (z_rz m (z_rw m n r) n = 0 ↔ r + 1 = m ^ n) ∧ (z_rz m (z_rw m n r) n ≠ 0 → ∀ i, i < n → z_nx 1 m n (z_rw m n r) i = z_rw m n (r + 1) i))
theorem z_rwP0 : ∀ m, m < 7 → ∀ n, n < 4 → ∀ r, r < 216 → z_rwP m n r = true := by decide +kernel
theorem z_rwN : ∀ m, m < 7 → ∀ n, n < 4 → ∀ r, r < 216 → 1 ≤ m → r < m ^ n → (z_rz m (z_rw m n r) n = 0 ↔ r + 1 = m ^ n) ∧ (z_rz m (z_rw m n r) n ≠ 0 → ∀ i, i < n → z_nx 1 m n (z_rw m n r) i = z_rw m n (r + 1) i) := fun m hm n hn r hr => of_decide_eq_true (z_rwP0 m hm n hn r hr)
/-- a row's numbers in order -/
def z_srJ (F : Nat → Nat) (m s x : Nat) : Nat → Nat
  | 0 => x
  | j + 1 => if F j = s then z_srJ F m s x j * m + s else z_srJ F m s x j
def z_srS (F : Nat → Nat) (m n : Nat) : Nat → Nat
  | 0 => 0
  | s + 1 => z_srJ F m s (z_srS F m n s) n
def z_srt (m n r : Nat) : Nat := z_srS (z_rw m n r) m n m
theorem z_srB : ∀ m, m < 7 → ∀ n, n < 4 → ∀ r, r < 216 → r < m ^ n → z_srt m n r < m ^ n := by decide +kernel
def z_sr4P (m n r : Nat) : Bool := decide (m ^ n ≤ r) || (List.range (m + 1)).all fun s => (List.range (n + 1)).all fun j => decide (z_srS (z_rw m n r) m n s ≤ 215 ∧ z_srJ (z_rw m n r) m s (z_srS (z_rw m n r) m n s) j ≤ 215)
theorem z_sr4P0 : ∀ m, m < 7 → ∀ n, n < 4 → ∀ r, r < 216 → z_sr4P m n r = true := by decide +kernel
theorem z_sr4 : ∀ m, m < 7 → ∀ n, n < 4 → ∀ r, r < 216 → r < m ^ n → ∀ s, s < 7 → s ≤ m → ∀ j, j < 4 → j ≤ n → z_srS (z_rw m n r) m n s ≤ 215 ∧ z_srJ (z_rw m n r) m s (z_srS (z_rw m n r) m n s) j ≤ 215 := fun m hm n hn r hr h s hs hs2 j hj hj2 => by
  have h0 := z_sr4P0 m hm n hn r hr
  unfold z_sr4P at h0
  rw [Bool.or_eq_true] at h0
  rcases h0 with h0 | h0
  · have h1 := of_decide_eq_true h0
    omega
  · exact of_decide_eq_true (List.all_eq_true.mp (List.all_eq_true.mp h0 s (List.mem_range.mpr (by omega))) j (List.mem_range.mpr (by omega)))
/-- the row in which all have number v -/
def z_una (m v : Nat) : Nat → Nat
  | 0 => 0
  | j + 1 => z_una m v j * m + v
def z_unBP (m n v : Nat) : Bool := decide (v < m → z_una m v n < m ^ n ∧ ∀ j, j < n → z_una m v j ≤ 215 ∧ z_rw m n (z_una m v n) j = v)
theorem z_unBP0 : ∀ m, m < 7 → ∀ n, n < 4 → ∀ v, v < 6 → z_unBP m n v = true := by decide +kernel
theorem z_unB : ∀ m, m < 7 → ∀ n, n < 4 → ∀ v, v < 6 → v < m → z_una m v n < m ^ n ∧ ∀ j, j < n → z_una m v j ≤ 215 ∧ z_rw m n (z_una m v n) j = v := fun m hm n hn v hv => of_decide_eq_true (z_unBP0 m hm n hn v hv)
def z_unRP (m n r : Nat) : Bool := decide (1 ≤ n → r < m ^ n → (∀ j, j < n → z_rw m n r j = z_rw m n r 0) → r = z_una m (z_rw m n r 0) n)
theorem z_unRP0 : ∀ m, m < 7 → ∀ n, n < 4 → ∀ r, r < 216 → z_unRP m n r = true := by decide +kernel
theorem z_unR : ∀ m, m < 7 → ∀ n, n < 4 → 1 ≤ n → ∀ r, r < 216 → r < m ^ n → (∀ j, j < n → z_rw m n r j = z_rw m n r 0) → r = z_una m (z_rw m n r 0) n := fun m hm n hn h1 r hr => of_decide_eq_true (z_unRP0 m hm n hn r hr) h1
theorem z_unM : ∀ m, m < 7 → ∀ n, n < 4 → ∀ v, v < 6 → ∀ w, w < 6 → v ≤ w → z_una m v n ≤ z_una m w n := by decide +kernel
/-- who says yes -/
def z_who (S : Nat → Int32) (F : Nat → Nat) (k : Nat) : Nat → Nat
  | 0 => 0
  | j + 1 => z_who S F k j + (S (F j)).toInt.toNat / 2 ^ k % 2 * 2 ^ j
theorem z_whB {S : Nat → Int32} {F : Nat → Nat} {k : Nat} : ∀ n, z_who S F k n < 2 ^ n
  | 0 => by
    show 0 < 1
    decide
  | n + 1 => by
    have ih := z_whB (S := S) (F := F) (k := k) n
    have h2 := Nat.mod_lt ((S (F n)).toInt.toNat / 2 ^ k) (show 0 < 2 by decide)
    show z_who S F k n + (S (F n)).toInt.toNat / 2 ^ k % 2 * 2 ^ n < 2 ^ (n + 1)
    rw [Nat.pow_succ]
    generalize (S (F n)).toInt.toNat / 2 ^ k % 2 = b at h2 ⊢
    have h3 : b * 2 ^ n ≤ 1 * 2 ^ n := Nat.mul_le_mul_right _ (by omega)
    generalize 2 ^ n = P at *
    omega
theorem z_whU {S : Nat → Int32} {F F2 : Nat → Nat} {k : Nat} : ∀ n, z_who S F k n = z_who S F2 k n ↔ ∀ j, j < n → (S (F j)).toInt.toNat / 2 ^ k % 2 = (S (F2 j)).toInt.toNat / 2 ^ k % 2
  | 0 => ⟨fun _ j hj => absurd hj (Nat.not_lt_zero j), fun _ => rfl⟩
  | n + 1 => by
    have ih := z_whU (S := S) (F := F) (F2 := F2) (k := k) n
    have b1 := z_whB (S := S) (F := F) (k := k) n
    have b2 := z_whB (S := S) (F := F2) (k := k) n
    have e1 : z_who S F k (n + 1) = z_who S F k n + (S (F n)).toInt.toNat / 2 ^ k % 2 * 2 ^ n := rfl
    have e2 : z_who S F2 k (n + 1) = z_who S F2 k n + (S (F2 n)).toInt.toNat / 2 ^ k % 2 * 2 ^ n := rfl
    have c1 : (S (F n)).toInt.toNat / 2 ^ k % 2 = 0 ∨ (S (F n)).toInt.toNat / 2 ^ k % 2 = 1 := by omega
    have c2 : (S (F2 n)).toInt.toNat / 2 ^ k % 2 = 0 ∨ (S (F2 n)).toInt.toNat / 2 ^ k % 2 = 1 := by omega
    constructor
    · intro h
      rw [e1, e2] at h
      have h0 : (S (F n)).toInt.toNat / 2 ^ k % 2 = (S (F2 n)).toInt.toNat / 2 ^ k % 2 := by
        rcases c1 with c1 | c1 <;> rcases c2 with c2 | c2 <;> rw [c1, c2] at h ⊢
        · rw [Nat.zero_mul, Nat.one_mul] at h
          exfalso
          omega
        · rw [Nat.zero_mul, Nat.one_mul] at h
          exfalso
          omega
      rw [h0] at h
      have h1 := ih.mp (Nat.add_right_cancel h)
      intro j hj
      by_cases c : j = n
      · rw [c]
        exact h0
      · exact h1 j (by omega)
    · intro h
      rw [e1, e2, h n (Nat.lt_succ_self n), ih.mpr fun j hj => h j (by omega)]
/-- an outcome is set v's answers -/
def z_own (S : Nat → Int32) (A : Int32) (v y u : Nat) : Prop := y = (S v).toInt.toNat ∧ u = (A &&& (S v ^^^ (-1 : Int32))).toInt.toNat
/-- row r breaks law -/
def z_brP (law : Nat) (B : Nat → Nat) (q m n : Nat) (S : Nat → Int32) (A : Int32) (y u : Nat → Nat) (r : Nat) : Prop :=
  (law = 0 ∧ ¬ (y r = y (z_srt m n r) ∧ u r = u (z_srt m n r))) ∨
  (law = 1 ∧ ∃ k, k < q ∧ ∃ e, e < r ∧ z_who S (z_rw m n e) k n = z_who S (z_rw m n r) k n ∧ ¬ (y e / 2 ^ k % 2 = y r / 2 ^ k % 2 ∧ u e / 2 ^ k % 2 = u r / 2 ^ k % 2)) ∨
  (law = 2 ∧ (∀ j, j < n → z_rw m n r j = z_rw m n r 0) ∧ ¬ z_own S A (z_rw m n r 0) (y r) (u r)) ∨
  (law = 3 ∧ ¬ z_cs B q (y r) (u r)) ∨
  (law = 4 ∧ ∀ e, e < m ^ n → z_own S A (z_rw m n e r) (y e) (u e))
def z_brK (law m n : Nat) : Nat := if law = 4 then n else m ^ n
/-- the first, or none -/
def z_ft (P : Nat → Prop) (K : Nat) (x : Int) : Prop := (x = -2 ∧ ∀ r, r < K → ¬ P r) ∨ ∃ r, r < K ∧ x = (r : Int) ∧ P r ∧ ∀ e, e < r → ¬ P e
theorem z_ftU {P P2 : Nat → Prop} {K : Nat} {x x2 : Int} (h : z_ft P K x) (h2 : z_ft P2 K x2) (e : ∀ r, r < K → (P r ↔ P2 r)) : x = x2 := by
  rcases h with ⟨a1, a2⟩ | ⟨r, a1, a2, a3, a4⟩
  · rcases h2 with ⟨b1, b2⟩ | ⟨r2, b1, b2, b3, b4⟩
    · exact a1.trans b1.symm
    · exact absurd ((e r2 b1).mpr b3) (a2 r2 b1)
  · rcases h2 with ⟨b1, b2⟩ | ⟨r2, b1, b2, b3, b4⟩
    · exact absurd ((e r a1).mp a3) (b2 r a1)
    · have h1 : ¬ r < r2 := fun h => b4 r h ((e r a1).mp a3)
      have h3 : ¬ r2 < r := fun h => a4 r2 h ((e r2 b1).mpr b3)
      omega
theorem z_brC {law : Nat} {B : Nat → Nat} {q m n : Nat} {S : Nat → Int32} {A : Int32} {y u y2 u2 : Nat → Nat} (m6 : m ≤ 6) (n3 : n ≤ 3) (h : ∀ r, r < m ^ n → y r = y2 r ∧ u r = u2 r) : ∀ r, r < z_brK law m n → (z_brP law B q m n S A y u r ↔ z_brP law B q m n S A y2 u2 r) := fun r hr => by
  unfold z_brK at hr
  unfold z_brP
  by_cases c4 : law = 4
  · rw [if_pos c4] at hr
    have e4 : (∀ e, e < m ^ n → z_own S A (z_rw m n e r) (y e) (u e)) ↔ ∀ e, e < m ^ n → z_own S A (z_rw m n e r) (y2 e) (u2 e) := ⟨fun g e he => by rw [← (h e he).1, ← (h e he).2]; exact g e he, fun g e he => by rw [(h e he).1, (h e he).2]; exact g e he⟩
    rw [e4]
    subst c4
    simp
  · rw [if_neg c4] at hr
    have hm := z_mk m6 n3
    have hs := z_srB m (by omega) n (by omega) r (by omega) hr
    rw [(h r hr).1, (h r hr).2, (h _ hs).1, (h _ hs).2]
    have e1 : (∃ k, k < q ∧ ∃ e, e < r ∧ z_who S (z_rw m n e) k n = z_who S (z_rw m n r) k n ∧ ¬ (y e / 2 ^ k % 2 = y2 r / 2 ^ k % 2 ∧ u e / 2 ^ k % 2 = u2 r / 2 ^ k % 2)) ↔ ∃ k, k < q ∧ ∃ e, e < r ∧ z_who S (z_rw m n e) k n = z_who S (z_rw m n r) k n ∧ ¬ (y2 e / 2 ^ k % 2 = y2 r / 2 ^ k % 2 ∧ u2 e / 2 ^ k % 2 = u2 r / 2 ^ k % 2) := by
      constructor
      · rintro ⟨k, hk, e, he, g1, g2⟩
        rw [(h e (by omega)).1, (h e (by omega)).2] at g2
        exact ⟨k, hk, e, he, g1, g2⟩
      · rintro ⟨k, hk, e, he, g1, g2⟩
        rw [← (h e (by omega)).1, ← (h e (by omega)).2] at g2
        exact ⟨k, hk, e, he, g1, g2⟩
    rw [e1]
    have e4 : (law = 4 ∧ ∀ e, e < m ^ n → z_own S A (z_rw m n e r) (y e) (u e)) ↔ (law = 4 ∧ ∀ e, e < m ^ n → z_own S A (z_rw m n e r) (y2 e) (u2 e)) := ⟨fun g => absurd g.1 c4, fun g => absurd g.1 c4⟩
    rw [e4]
/-- a set's answers as a word -/
theorem z_ansE {A s : Int32} {q : Nat} {w : Int} (hA : A.toInt = ((2 ^ q : Nat) : Int) - 1) (q10 : q ≤ 10) (h0 : 0 ≤ s.toInt) (h1 : s.toInt < ((2 ^ q : Nat) : Int)) (h : z_w2 (fun k => s.toInt.toNat / 2 ^ k % 2 = 1) (fun k => ¬ s.toInt.toNat / 2 ^ k % 2 = 1) q w) : w.toNat % 1024 = s.toInt.toNat ∧ w.toNat / 1024 = (A &&& (s ^^^ (-1 : Int32))).toInt.toNat := by
  have hA2 := z_p21 hA q10
  have hP : 2 ^ q ≤ 1024 := Nat.pow_le_pow_right (n := 2) (j := 10) (by decide) q10
  obtain ⟨n0, n1, n3⟩ := z_ib_no (x := s) (v := A) (y := s ^^^ (-1 : Int32)) (z := A &&& (s ^^^ (-1 : Int32))) rfl rfl hA2.1 h0
  refine z_boU (z_w2B h) (P2 := fun k => s.toInt.toNat / 2 ^ k % 2 = 1) (Q2 := fun k => ¬ s.toInt.toNat / 2 ^ k % 2 = 1) ⟨⟨by omega, by omega⟩, fun k hk => ⟨⟨fun g => ⟨?_, g⟩, fun g => g.2⟩, ?_⟩⟩ fun k _ => ⟨Iff.rfl, Iff.rfl⟩
  · by_cases c : k < q
    · exact c
    · have h2 : 2 ^ q ≤ 2 ^ k := Nat.pow_le_pow_right (by decide) (by omega)
      rw [Nat.div_eq_of_lt (by omega)] at g
      cases g
  · have g := n3 k
    rw [z_allb hA q10 k] at g
    exact g
theorem z_ownW {S : Nat → Int32} {A x w : Int32} {q v : Nat} (hx : 0 ≤ x.toInt) (hw : 0 ≤ w.toInt) (e : w.toInt.toNat % 1024 = (S v).toInt.toNat ∧ w.toInt.toNat / 1024 = (A &&& (S v ^^^ (-1 : Int32))).toInt.toNat) : x.toInt = w.toInt ↔ z_own S A v (x.toInt.toNat % 1024) (x.toInt.toNat / 1024) := by
  unfold z_own
  rw [← e.1, ← e.2]
  constructor
  · intro h
    rw [h]
    exact ⟨rfl, rfl⟩
  · intro ⟨h1, h2⟩
    omega
