/-! the next bench or row; how many benches there are -/
section ZNX
variable {m n r : Nat} {f g F : Nat → Nat}
/-- the next bench (r = 0) or row (r = 1) -/
def z_nx (r m n : Nat) (f : Nat → Nat) : Nat → Nat := fun i => if z_rz m f n = 0 then f i else if i + 1 < z_rz m f n then f i else if r = 1 ∧ z_rz m f n < i + 1 then 0 else f (z_rz m f n - 1) + 1
theorem z_nx0 : z_nx 0 m n f = z_nxb m n f := by
  funext i
  show (if z_rz m f n = 0 then f i else if i + 1 < z_rz m f n then f i else if (0 : Nat) = 1 ∧ z_rz m f n < i + 1 then 0 else f (z_rz m f n - 1) + 1) = (if z_rz m f n = 0 then f i else if i + 1 < z_rz m f n then f i else f (z_rz m f n - 1) + 1)
  rw [if_neg (show ¬ ((0 : Nat) = 1 ∧ z_rz m f n < i + 1) from fun h => absurd h.1 (by decide))]
theorem z_nxL {i : Nat} (h : i + 1 < z_rz m f n) : z_nx r m n f i = f i := by
  show (if z_rz m f n = 0 then f i else if i + 1 < z_rz m f n then f i else if r = 1 ∧ z_rz m f n < i + 1 then 0 else f (z_rz m f n - 1) + 1) = f i
  rw [if_neg (show ¬ z_rz m f n = 0 by omega), if_pos h]
theorem z_nxU {i j : Nat} (h : z_rz m f n = j + 1) (h1 : j ≤ i) (h2 : r ≠ 1 ∨ i = j) : z_nx r m n f i = f j + 1 := by
  show (if z_rz m f n = 0 then f i else if i + 1 < z_rz m f n then f i else if r = 1 ∧ z_rz m f n < i + 1 then 0 else f (z_rz m f n - 1) + 1) = f j + 1
  rw [h, if_neg (Nat.succ_ne_zero j), if_neg (show ¬ i + 1 < j + 1 by omega), if_neg (show ¬ (r = 1 ∧ j + 1 < i + 1) by omega), Nat.add_sub_cancel]
theorem z_nxZ {i j : Nat} (h : z_rz m f n = j + 1) (h1 : j < i) (h2 : r = 1) : z_nx r m n f i = 0 := by
  show (if z_rz m f n = 0 then f i else if i + 1 < z_rz m f n then f i else if r = 1 ∧ z_rz m f n < i + 1 then 0 else f (z_rz m f n - 1) + 1) = 0
  rw [h, if_neg (Nat.succ_ne_zero j), if_neg (show ¬ i + 1 < j + 1 by omega), if_pos (show r = 1 ∧ j + 1 < i + 1 by omega)]
theorem z_rzI : ∀ n, z_rz m f n = 0 → ∀ i, i < n → ¬ f i + 1 < m
  | 0, _, i, hi => absurd hi (Nat.not_lt_zero i)
  | n + 1, h, i, hi => by
    have e : z_rz m f (n + 1) = if f n + 1 < m then n + 1 else z_rz m f n := rfl
    by_cases c : f n + 1 < m
    · rw [e, if_pos c] at h
      omega
    · rw [e, if_neg c] at h
      by_cases d : i = n
      · rw [d]
        exact c
      · exact z_rzI n h i (by omega)
theorem z_rzJ : ∀ n, z_rz m f n ≠ 0 → ∀ i, z_rz m f n ≤ i → i < n → ¬ f i + 1 < m
  | 0, _, i, _, hi => absurd hi (Nat.not_lt_zero i)
  | n + 1, h, i, h1, hi => by
    have e : z_rz m f (n + 1) = if f n + 1 < m then n + 1 else z_rz m f n := rfl
    by_cases c : f n + 1 < m
    · rw [e, if_pos c] at h1
      omega
    · rw [e, if_neg c] at h h1
      by_cases d : i = n
      · rw [d]
        exact c
      · exact z_rzJ n h i h1 (by omega)
/-- numbers as an array holds them -/
def z_of (F : Nat → Nat) : Nat → Int32 := fun j => Int32.ofNat (F j)
theorem z_ofIn (hF : ∀ i, F i < m) (m12 : m ≤ 12) (i : Nat) : (z_of F i).toInt = (F i : Int) := Int32.toInt_ofNat_of_lt (by have := hF i; omega)
theorem z_stpN (m12 : m ≤ 12) (hF : ∀ i, F i < m) : z_stp (m : Int) (n : Int) (z_of F) (z_of (z_nxb m n F)) (if z_rz m F n = 0 then 0 else 1) := by
  by_cases c : z_rz m F n = 0
  · rw [if_pos c]
    refine Or.inl ⟨rfl, fun i hi => ?_⟩
    have h := z_rzI n c i (by omega)
    have h2 := hF i
    rw [z_ofIn hF m12]
    omega
  · rw [if_neg c]
    have h := z_nxbR n c
    have hj := z_rzL (m := m) (f := F) n
    refine Or.inr ⟨rfl, z_rz m F n - 1, by omega, ?_, fun i h1 h2 => ?_, fun i h1 => ?_, fun i h1 h2 => ?_⟩
    · rw [z_ofIn hF m12]
      omega
    · have h3 := z_rzJ n c i (by omega) (by omega)
      have h4 := hF i
      rw [z_ofIn hF m12]
      omega
    · have e : z_nxb m n F i = F i := by
        show (if z_rz m F n = 0 then F i else if i + 1 < z_rz m F n then F i else F (z_rz m F n - 1) + 1) = F i
        rw [if_neg c, if_pos (by omega)]
      show Int32.ofNat (z_nxb m n F i) = Int32.ofNat (F i)
      rw [e]
    · have e : z_nxb m n F i = F (z_rz m F n - 1) + 1 := by
        show (if z_rz m F n = 0 then F i else if i + 1 < z_rz m F n then F i else F (z_rz m F n - 1) + 1) = F (z_rz m F n - 1) + 1
        rw [if_neg c, if_neg (by omega)]
      rw [z_ofIn (z_nxbB (n := n) hF) m12, z_ofIn hF m12, e]
      omega
theorem z_bkS (m1 : 1 ≤ m) (m12 : m ≤ 12) (n1 : 1 ≤ n) (n5 : n ≤ 5) {k : Nat} (h : z_cti m n (z_of (z_bk m n k)) (k : Int) 1) : z_cti m n (z_of (z_bk m n (k + 1))) ((k + 1 : Nat) : Int) (if z_rz m (z_bk m n k) n = 0 then 0 else 1) := by
  have hb := z_bkB (m := m) (n := n) m1 k
  exact z_ctiS h (by decide) (z_stpN (n := n) m12 hb) rfl rfl (fun i _ => by rw [z_ofIn hb m12]; have := hb i; omega) m1 (by omega) n1 (by omega) (by omega)
theorem z_bkC (m1 : 1 ≤ m) (m12 : m ≤ 12) (n1 : 1 ≤ n) (n5 : n ≤ 5) : ∀ k, k < z_T m n → z_cti m n (z_of (z_bk m n k)) (k : Int) 1
  | 0, _ => by
    refine ⟨by omega, Or.inl ⟨rfl, ?_⟩⟩
    have h1 := z_sm2G (L := m) (n := n) (g := z_of (z_bk m n 0)) (j := 0) (v := 0) n (by omega) (fun i _ _ => show (Int32.ofNat 0).toInt.toNat = 0 from rfl)
    have h2 := z_S1 (m - 1) (by omega) n (by omega) 0 (by omega)
    rw [Nat.zero_add] at h1
    rw [Nat.sub_zero, show m - 1 + 1 = m by omega] at h2
    rw [h1]
    show 0 + (1 + z_S (m - 1 - 0) n 0 n) = _
    rw [Nat.sub_zero]
    omega
  | k + 1, hk => by
    have h2 := z_bkS m1 m12 n1 n5 (z_bkC m1 m12 n1 n5 k (by omega))
    by_cases c : z_rz m (z_bk m n k) n = 0
    · rw [if_pos c] at h2
      obtain ⟨_, ⟨h3, _⟩ | ⟨_, h3⟩⟩ := h2
      · exact absurd h3 (by decide)
      · omega
    · rw [if_neg c] at h2
      exact h2
/-- the last bench -/
theorem z_bkE (m1 : 1 ≤ m) (m12 : m ≤ 12) (n1 : 1 ≤ n) (n5 : n ≤ 5) {k : Nat} (hk : k < z_T m n) : z_rz m (z_bk m n k) n = 0 ↔ k + 1 = z_T m n := by
  have h2 := z_bkS m1 m12 n1 n5 (z_bkC m1 m12 n1 n5 k hk)
  by_cases c : z_rz m (z_bk m n k) n = 0
  · rw [if_pos c] at h2
    obtain ⟨_, ⟨h3, _⟩ | ⟨_, h3⟩⟩ := h2
    · exact absurd h3 (by decide)
    · exact ⟨fun _ => by omega, fun _ => c⟩
  · rw [if_neg c] at h2
    obtain ⟨_, ⟨_, h3⟩ | ⟨h3, _⟩⟩ := h2
    · have := z_sm2pos (L := m) (n := n) (f := z_of (z_bk m n (k + 1))) n
      exact ⟨fun h => absurd h c, fun h => by omega⟩
    · exact absurd h3 (by decide)
end ZNX
theorem z_Tp1 : ∀ m, m < 13 → 1 ≤ m → ∀ n, n < 6 → 1 ≤ z_T m n := by decide +kernel
