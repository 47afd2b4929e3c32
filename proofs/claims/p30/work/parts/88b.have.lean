/-! told answers and the sets that have them, bit by bit -/
theorem z_m1b : ∀ i, i < 32 → ((-1 : Int32)).toBitVec.getLsbD i = true := by decide +kernel
theorem z_0b : ∀ i, i < 32 → ((0 : Int32)).toBitVec.getLsbD i = false := by decide +kernel
theorem z_m64b : ∀ i, i < 32 → ((-64 : Int32)).toBitVec.getLsbD i = decide (6 ≤ i) := by decide +kernel
theorem z_bt32 {x : Int32} (h : 0 ≤ x.toInt) (i : Nat) : x.toBitVec.getLsbD i = true ↔ x.toInt.toNat / 2 ^ i % 2 = 1 := by
  have h1 := z_nn h
  have e : x.toInt.toNat = x.toBitVec.toNat := by omega
  rw [e]
  show x.toBitVec.toNat.testBit i = true ↔ _
  rw [Nat.testBit_eq_decide_div_mod_eq, decide_eq_true_eq]
theorem z_z32 {v : Int32} : v.toInt = 0 ↔ ∀ i, i < 32 → v.toBitVec.getLsbD i = false := by
  refine ⟨fun h i hi => ?_, fun h => ?_⟩
  · have e : v = 0 := Int32.toInt_inj.mp (h.trans rfl)
    rw [e]
    exact z_0b i hi
  · have h2 : v.toBitVec = (0 : Int32).toBitVec := by
      apply BitVec.eq_of_getLsbD_eq
      intro i hi
      rw [h i hi, z_0b i hi]
    show v.toBitVec.toInt = 0
    exact (congrArg BitVec.toInt h2).trans rfl
theorem z_m2c (x : Nat) : x % 2 = 0 ∨ x % 2 = 1 := by omega
theorem z_m2n {x : Nat} (h : ¬ x % 2 = 1) : x % 2 = 0 := by omega
theorem z_hi0 {x k : Nat} (h : x < 1024) (hk : 10 ≤ k) : x / 2 ^ k % 2 = 0 := by
  have h2 : 1024 ≤ 2 ^ k := Nat.pow_le_pow_right (n := 2) (by decide) hk
  rw [Nat.div_eq_of_lt (Nat.lt_of_lt_of_le h h2)]
theorem z_hi9 {x k : Nat} (h : x < 1024) (hk : x / 2 ^ k % 2 = 1) : k < 10 := by
  by_cases c : k < 10
  · exact c
  · rw [z_hi0 h (by omega)] at hk
    cases hk
theorem z_hib {k b : Nat} (hk : k < 4) : 64 * b / 2 ^ (6 + k) % 2 = b / 2 ^ k % 2 := z_bbit hk b 0 (by decide)
theorem z_bb2 {k b i : Nat} (hk : k < 4) (hi : i < 64) : (64 * b + i) / 2 ^ (6 + k) % 2 = b / 2 ^ k % 2 := z_bbit hk b i hi
theorem z_lb2 {k b i : Nat} (hk : k < 6) : (64 * b + i) / 2 ^ k % 2 = i / 2 ^ k % 2 := by
  match k, hk with
  | 0, _ => show (64 * b + i) / 1 % 2 = i / 1 % 2; omega
  | 1, _ => show (64 * b + i) / 2 % 2 = i / 2 % 2; omega
  | 2, _ => show (64 * b + i) / 4 % 2 = i / 4 % 2; omega
  | 3, _ => show (64 * b + i) / 8 % 2 = i / 8 % 2; omega
  | 4, _ => show (64 * b + i) / 16 % 2 = i / 16 % 2; omega
  | 5, _ => show (64 * b + i) / 32 % 2 = i / 32 % 2; omega
theorem z_lo0 {k b : Nat} (hk : k < 6) : 64 * b / 2 ^ k % 2 = 0 := by
  have h := z_lb2 (b := b) (i := 0) hk
  rw [Nat.zero_div] at h
  exact h
/-- a set that has told answers: yes ones, no ones -/
def z_has (s y n : Nat) : Prop := ∀ k, k < 10 → (y / 2 ^ k % 2 = 1 → s / 2 ^ k % 2 = 1) ∧ (n / 2 ^ k % 2 = 1 → s / 2 ^ k % 2 = 0)
/-- what is told of the questions from the seventh on, of a block -/
def z_bcd (y n b : Nat) : Prop := (∀ k, k < 4 → y / 2 ^ (6 + k) % 2 = 1 → b / 2 ^ k % 2 = 1) ∧ ∀ k, k < 4 → n / 2 ^ (6 + k) % 2 = 1 → b / 2 ^ k % 2 = 0
theorem z_hasB {y n b i : Nat} (hi : i < 64) : z_has (64 * b + i) y n ↔ z_bcd y n b ∧ ∀ k, k < 6 → (y / 2 ^ k % 2 = 1 → i / 2 ^ k % 2 = 1) ∧ (n / 2 ^ k % 2 = 1 → i / 2 ^ k % 2 = 0) := by
  refine ⟨fun h => ⟨⟨fun k hk a => ?_, fun k hk a => ?_⟩, fun k hk => ?_⟩, fun h k hk => ?_⟩
  · have h2 := (h (6 + k) (by omega)).1 a
    rw [z_bb2 hk hi] at h2
    exact h2
  · have h2 := (h (6 + k) (by omega)).2 a
    rw [z_bb2 hk hi] at h2
    exact h2
  · have h2 := h k (by omega)
    rw [z_lb2 hk] at h2
    exact h2
  · by_cases c : k < 6
    · rw [z_lb2 c]
      exact h.2 k c
    · obtain ⟨m, rfl⟩ : ∃ m, k = 6 + m := ⟨k - 6, by omega⟩
      rw [z_bb2 (by omega) hi]
      exact ⟨h.1.1 m (by omega), h.1.2 m (by omega)⟩
theorem z_shA {x1 x6 x8 x10 x12 : Int32} {y b : Nat} (h1 : x1.toInt = (y : Int)) (hy : y < 1024) (h6 : x6.toInt = 64 * (b : Int)) (e8 : x8 = x1 &&& (-64)) (e10 : x10 = x6 ^^^ (-1)) (e12 : x12 = x8 &&& x10) : x12.toInt = 0 ↔ ∀ k, k < 4 → y / 2 ^ (6 + k) % 2 = 1 → b / 2 ^ k % 2 = 1 := by
  have hx1 : x1.toInt.toNat = y := by omega
  have hx6 : x6.toInt.toNat = 64 * b := by omega
  have hbit : ∀ i, i < 32 → x12.toBitVec.getLsbD i = (x1.toBitVec.getLsbD i && decide (6 ≤ i) && !x6.toBitVec.getLsbD i) := fun i hi => by
    rw [e12, Int32.toBitVec_and, BitVec.getLsbD_and, e8, Int32.toBitVec_and, BitVec.getLsbD_and, e10, Int32.toBitVec_xor, BitVec.getLsbD_xor, z_m1b i hi, z_m64b i hi, Bool.xor_true]
  rw [z_z32]
  refine ⟨fun h k hk hy1 => ?_, fun h i hi => ?_⟩
  · have h2 := h (6 + k) (by omega)
    rw [hbit (6 + k) (by omega), (z_bt32 (by omega) (6 + k)).mpr (by rw [hx1]; exact hy1), decide_eq_true (show 6 ≤ 6 + k by omega)] at h2
    have h3 : x6.toBitVec.getLsbD (6 + k) = true := by
      cases e : x6.toBitVec.getLsbD (6 + k) with
      | true => rfl
      | false => rw [e] at h2; cases h2
    have h4 := (z_bt32 (by omega) (6 + k)).mp h3
    rw [hx6, z_hib hk] at h4
    exact h4
  · rw [hbit i hi]
    cases ea : x1.toBitVec.getLsbD i with
    | false => rfl
    | true =>
      have h3 := (z_bt32 (by omega) i).mp ea
      rw [hx1] at h3
      have h9 := z_hi9 hy h3
      by_cases c : 6 ≤ i
      · obtain ⟨k, rfl⟩ : ∃ k, i = 6 + k := ⟨i - 6, by omega⟩
        have h4 := h k (by omega) h3
        rw [(z_bt32 (by omega) (6 + k)).mpr (by rw [hx6, z_hib (by omega)]; exact h4), decide_eq_true c]
        rfl
      · rw [decide_eq_false c]
        rfl
theorem z_shB {x4 x6 x15 : Int32} {n b : Nat} (h4 : x4.toInt = (n : Int)) (hn : n < 1024) (h6 : x6.toInt = 64 * (b : Int)) (e : x15 = x4 &&& x6) : x15.toInt = 0 ↔ ∀ k, k < 4 → n / 2 ^ (6 + k) % 2 = 1 → b / 2 ^ k % 2 = 0 := by
  have hx4 : x4.toInt.toNat = n := by omega
  have hx6 : x6.toInt.toNat = 64 * b := by omega
  have hbit : ∀ i, x15.toBitVec.getLsbD i = (x4.toBitVec.getLsbD i && x6.toBitVec.getLsbD i) := fun i => by
    rw [e, Int32.toBitVec_and, BitVec.getLsbD_and]
  rw [z_z32]
  refine ⟨fun h k hk hn1 => ?_, fun h i hi => ?_⟩
  · have h2 := h (6 + k) (by omega)
    rw [hbit (6 + k), (z_bt32 (by omega) (6 + k)).mpr (by rw [hx4]; exact hn1)] at h2
    refine z_m2n fun c => ?_
    rw [(z_bt32 (by omega) (6 + k)).mpr (by rw [hx6, z_hib hk]; exact c)] at h2
    cases h2
  · rw [hbit i]
    cases ea : x4.toBitVec.getLsbD i with
    | false => rfl
    | true =>
      cases eb : x6.toBitVec.getLsbD i with
      | false => rfl
      | true =>
        have h3 := (z_bt32 (by omega) i).mp ea
        have h5 := (z_bt32 (by omega) i).mp eb
        rw [hx4] at h3
        rw [hx6] at h5
        have h9 := z_hi9 hn h3
        by_cases c : i < 6
        · rw [z_lo0 c] at h5
          cases h5
        · obtain ⟨k, rfl⟩ : ∃ k, i = 6 + k := ⟨i - 6, by omega⟩
          rw [z_hib (by omega), h k (by omega) h3] at h5
          cases h5
theorem z_and1023 {r x : Int32} (hx : x = r &&& 1023) (h : 0 ≤ r.toInt) : x.toInt = r.toInt % 1024 := by
  have h1 := z_nn h
  have h0 : (r &&& 1023).toBitVec.toNat = r.toBitVec.toNat % 1024 := by
    rw [Int32.toBitVec_and, BitVec.toNat_and]
    exact Nat.and_two_pow_sub_one_eq_mod r.toBitVec.toNat 10
  have h2 : (r &&& 1023).toInt = ((r &&& 1023).toBitVec.toNat : Int) := by
    show (r &&& 1023).toBitVec.toInt = _
    exact BitVec.toInt_eq_toNat_of_lt (by rw [h0]; omega)
  rw [hx, h2, h0]
  omega
/-- the sets of a block that have told answers, as bits -/
def z_hw (q y n b : Nat) (v : Int64) : Prop := ∀ i, i < 64 → (v.toBitVec.getLsbD i = true ↔ i < 2 ^ q ∧ z_has (64 * b + i) y n)
def z_svw (w : Int64) (y n x : Nat) (v : Int64) : Prop := ∀ i, i < 64 → (v.toBitVec.getLsbD i = true ↔ (w.toBitVec.getLsbD i = true ∧ ∀ k, k < x → (y / 2 ^ k % 2 = 1 → i / 2 ^ k % 2 = 1) ∧ (n / 2 ^ k % 2 = 1 → i / 2 ^ k % 2 = 0)))
def z_svh (w : Int64) (y n x : Nat) (v : Int64) : Prop := ∀ i, i < 64 → (v.toBitVec.getLsbD i = true ↔ ((w.toBitVec.getLsbD i = true ∧ ∀ k, k < x → (y / 2 ^ k % 2 = 1 → i / 2 ^ k % 2 = 1) ∧ (n / 2 ^ k % 2 = 1 → i / 2 ^ k % 2 = 0)) ∧ (y / 2 ^ x % 2 = 1 → i / 2 ^ x % 2 = 1)))
section ZH1
variable {w v v1 u u2 : Int64} {y n x q b : Nat} {a : Int32}
theorem z_svw0 {x0 : Int32} (h : x0.toInt = 0) : z_svw w y n x0.toInt.toNat w := fun i _ => by
  rw [h]
  exact ⟨fun a => ⟨a, fun k hk => absurd hk (Nat.not_lt_zero k)⟩, fun a => a.1⟩
theorem z_svy0 (h : z_svw w y n x v) (e : a.toInt = ((y / 2 ^ x % 2 : Nat) : Int)) (ha : a.toInt = 0) : z_svh w y n x v := fun i hi => by
  have h0 : y / 2 ^ x % 2 = 0 := by omega
  rw [h i hi, h0]
  exact ⟨fun b => ⟨b, fun c => by cases c⟩, fun b => b.1⟩
theorem z_svy1 (h : z_svw w y n x v) (e : a.toInt = ((y / 2 ^ x % 2 : Nat) : Int)) (ha : a.toInt ≠ 0) (hx : x < 6) (hu : u = z_ty2.getD x 0) (hv : v1 = v &&& u) : z_svh w y n x v1 := fun i hi => by
  have h0 : y / 2 ^ x % 2 = 1 := by omega
  rw [hv, Int64.toBitVec_and, BitVec.getLsbD_and, Bool.and_eq_true, h i hi, hu, z_ybit x hx i hi, decide_eq_true_eq, h0]
  exact ⟨fun b => ⟨b.1, fun _ => b.2⟩, fun b => ⟨b.1, b.2 rfl⟩⟩
theorem z_svn0 (h : z_svh w y n x v) (e : a.toInt = ((n / 2 ^ x % 2 : Nat) : Int)) (ha : a.toInt = 0) : z_svw w y n (x + 1) v := fun i hi => by
  have h0 : n / 2 ^ x % 2 = 0 := by omega
  rw [h i hi]
  refine ⟨fun b => ⟨b.1.1, fun k hk => ?_⟩, fun b => ⟨⟨b.1, fun k hk => b.2 k (by omega)⟩, (b.2 x (Nat.lt_succ_self x)).1⟩⟩
  by_cases c : k = x
  · rw [c]
    exact ⟨b.2, fun d => by rw [h0] at d; cases d⟩
  · exact b.1.2 k (by omega)
theorem z_svn1 (h : z_svh w y n x v) (e : a.toInt = ((n / 2 ^ x % 2 : Nat) : Int)) (ha : a.toInt ≠ 0) (hx : x < 6) (hu : u = z_ty2.getD x 0) (hu2 : u2 = u ^^^ (-1)) (hv : v1 = v &&& u2) : z_svw w y n (x + 1) v1 := fun i hi => by
  have h0 : n / 2 ^ x % 2 = 1 := by omega
  have hb : u2.toBitVec.getLsbD i = true ↔ i / 2 ^ x % 2 = 0 := by
    rw [hu2, Int64.toBitVec_xor, BitVec.getLsbD_xor, z_allbit i hi, Bool.xor_true, hu, z_ybit x hx i hi, Bool.not_eq_true', decide_eq_false_iff_not]
    have := z_m2c (i / 2 ^ x)
    generalize i / 2 ^ x % 2 = r at *
    omega
  rw [hv, Int64.toBitVec_and, BitVec.getLsbD_and, Bool.and_eq_true, h i hi, hb]
  refine ⟨fun b => ⟨b.1.1.1, fun k hk => ?_⟩, fun b => ⟨⟨⟨b.1, fun k hk => b.2 k (by omega)⟩, (b.2 x (Nat.lt_succ_self x)).1⟩, (b.2 x (Nat.lt_succ_self x)).2 h0⟩⟩
  by_cases c : k = x
  · rw [c]
    exact ⟨b.1.2, fun _ => b.2⟩
  · exact b.1.1.2 k (by omega)
theorem z_hwE (h : z_svw w y n x v) (hx : 6 ≤ x) (h10 : x ≤ 6) (hw : z_whb q w) (hc : z_bcd y n b) : z_hw q y n b v := fun i hi => by
  obtain rfl : x = 6 := by omega
  rw [h i hi, hw i hi, z_hasB hi]
  exact ⟨fun a => ⟨a.1, hc, a.2⟩, fun a => ⟨a.1, a.2.2⟩⟩
theorem z_hw0 (hc : ¬ z_bcd y n b) : z_hw q y n b 0 := fun i hi => by
  rw [z_nobit i hi, z_hasB hi]
  exact ⟨fun a => (by cases a), fun a => absurd a.2.1 hc⟩
theorem z_hwz (h : z_hw q y n b v) (hv : v.toInt = 0) : ∀ i, i < 64 → i < 2 ^ q → ¬ z_has (64 * b + i) y n := fun i hi hq hh => by
  have e : v = 0 := Int64.toInt_inj.mp (hv.trans rfl)
  have h2 := (h i hi).mpr ⟨hq, hh⟩
  rw [e, z_nobit i hi] at h2
  cases h2
end ZH1
/-- no bit is in both words -/
theorem z_andz {a b v : Int64} (hv : v = a &&& b) : v.toInt = 0 ↔ ∀ i, i < 64 → ¬ (a.toBitVec.getLsbD i = true ∧ b.toBitVec.getLsbD i = true) := by
  refine ⟨fun h i hi hh => ?_, fun h => ?_⟩
  · have e : v = 0 := Int64.toInt_inj.mp (h.trans rfl)
    have h2 := z_bitsE.mp e i hi
    rw [hv, Int64.toBitVec_and, BitVec.getLsbD_and, hh.1, hh.2] at h2
    cases h2
  · have e : v = 0 := z_bitsE.mpr fun i hi => by
      rw [hv, Int64.toBitVec_and, BitVec.getLsbD_and]
      cases ea : a.toBitVec.getLsbD i with
      | false => rfl
      | true =>
        cases eb : b.toBitVec.getLsbD i with
        | false => rfl
        | true => exact absurd ⟨ea, eb⟩ (h i hi)
    rw [e]
    rfl
/-! ties that sets with told answers break -/
def z_tbk (B : Nat → Nat) (q t y n b x β : Nat) : Prop := β < 2 ^ t ∧ ∀ i, i < t → (β / 2 ^ i % 2 = 1 ↔ ∀ s, s < 2 ^ q → z_has s y n → (s < 64 * b ∨ (s < 64 * b + 64 ∧ i < x)) → B s / 2 ^ i % 2 ≠ 0)
theorem z_1shb : ∀ x, x < 8 → ∀ i, i < 32 → ((1 : Int32) <<< ((Int32.ofNat x) &&& 31)).toBitVec.getLsbD i = decide (i = x) := by decide +kernel
theorem z_2t1T : ∀ t, t < 9 → ((1 : Int32) <<< ((Int32.ofNat t) &&& 31)).toInt = ((2 ^ t : Nat) : Int) := by decide +kernel
theorem z_2t1b : ∀ t, t < 9 → ∀ i, i < t → (2 ^ t - 1) / 2 ^ i % 2 = 1 := by decide +kernel
theorem z_2t1 {x c v : Int32} {t : Nat} (hx : x.toInt = (t : Int)) (ht : t ≤ 8) (hc : c = (1 : Int32) <<< (x &&& 31)) (hv : v.toInt = c.toInt - 1) : v.toInt.toNat = 2 ^ t - 1 := by
  have e : c.toInt = ((2 ^ t : Nat) : Int) := by rw [hc, z_of32 hx (by omega)]; exact z_2t1T t (by omega)
  rw [e] at hv
  generalize 2 ^ t = P at *
  omega
theorem z_andn {v c c2 e : Int32} {x : Nat} {x6 : Int32} (hv : 0 ≤ v.toInt) (h6 : x6.toInt = (x : Int)) (hx : x < 8) (hc : c = (1 : Int32) <<< (x6 &&& 31)) (h2 : c2 = c ^^^ (-1)) (he : e = v &&& c2) : (0 ≤ e.toInt ∧ e.toInt ≤ v.toInt) ∧ ∀ i, i < 32 → (e.toInt.toNat / 2 ^ i % 2 = 1 ↔ v.toInt.toNat / 2 ^ i % 2 = 1 ∧ i ≠ x) := by
  have h0 : 0 ≤ e.toInt ∧ e.toInt ≤ v.toInt := by rw [he]; exact z_pAndL rfl hv
  refine ⟨h0, fun i hi => ?_⟩
  rw [← z_bt32 h0.1, ← z_bt32 hv, he, Int32.toBitVec_and, BitVec.getLsbD_and, Bool.and_eq_true, h2, Int32.toBitVec_xor, BitVec.getLsbD_xor, z_m1b i hi, Bool.xor_true, hc, z_of32 h6 (by omega), z_1shb x hx i hi, Bool.not_eq_true', decide_eq_false_iff_not]
  all_goals exact Iff.rfl
section ZH2
variable {B : Nat → Nat} {q t y n b x β : Nat} {u v l r : Int64}
theorem z_tbk0 {x0 x2 c b2 : Int32} (h0 : x0.toInt = 0) (hx : x2.toInt = (t : Int)) (ht : t ≤ 8) (hc : c = (1 : Int32) <<< (x2 &&& 31)) (hv : b2.toInt = c.toInt - 1) : z_tbk B q t y n x0.toInt.toNat 0 b2.toInt.toNat := by
  rw [z_2t1 hx ht hc hv, h0]
  refine ⟨?_, fun i hi => ?_⟩
  · have : 0 < 2 ^ t := Nat.pow_pos (by decide)
    omega
  · rw [z_2t1b t (by omega) i hi]
    refine ⟨fun _ s _ _ h => ?_, fun _ => rfl⟩
    rcases h with h | ⟨_, h⟩
    · exact absurd h (Nat.not_lt_zero s)
    · exact absurd h (Nat.not_lt_zero i)
theorem z_tbkN (h : z_tbk B q t y n b x β) (hx : t ≤ x) : z_tbk B q t y n (b + 1) 0 β := by
  refine ⟨h.1, fun i hi => ?_⟩
  rw [h.2 i hi]
  refine ⟨fun a s h1 h2 h3 => a s h1 h2 ?_, fun a s h1 h2 h3 => a s h1 h2 ?_⟩
  · rcases h3 with h3 | ⟨_, h3⟩
    · by_cases c : s < 64 * b
      · exact Or.inl c
      · exact Or.inr ⟨by omega, by omega⟩
    · exact absurd h3 (Nat.not_lt_zero i)
  · rcases h3 with h3 | ⟨h3, _⟩
    · exact Or.inl (by omega)
    · exact Or.inl (by omega)
theorem z_tbkZ (h : z_tbk B q t y n b x β) (hl : z_hw q y n b u) (hu : u.toInt = 0) : z_tbk B q t y n (b + 1) 0 β := by
  have hz := z_hwz hl hu
  refine ⟨h.1, fun i hi => ?_⟩
  rw [h.2 i hi]
  refine ⟨fun a s h1 h2 h3 => ?_, fun a s h1 h2 h3 => a s h1 h2 ?_⟩
  · rcases h3 with h3 | ⟨_, h3⟩
    · by_cases c : s < 64 * b
      · exact a s h1 h2 (Or.inl c)
      · refine absurd ?_ (hz (s - 64 * b) (by omega) (by generalize 2 ^ q = P at *; omega))
        rw [show 64 * b + (s - 64 * b) = s by omega]
        exact h2
    · exact absurd h3 (Nat.not_lt_zero i)
  · rcases h3 with h3 | ⟨h3, _⟩
    · exact Or.inl (by omega)
    · exact Or.inl (by omega)
/-- the word of a tie -/
theorem z_tbw {kb : Nat → Int64} {bl : Nat} (h : z_tbt B t q bl kb) (hx : x < t) (hb : b < bl) (hl : kb (x * bl + b) = l) : ∀ i, i < 64 → (l.toBitVec.getLsbD i = true ↔ 64 * b + i < 2 ^ q ∧ B (64 * b + i) / 2 ^ x % 2 = 0) := fun i hi => by
  have h1 := h x hx (64 * b + i) (by omega)
  rw [show (64 * b + i) / 64 = b by omega, show (64 * b + i) % 64 = i by omega, hl] at h1
  exact h1
theorem z_tbkA (h : z_tbk B q t y n b x β) (hl : z_hw q y n b u) (hk : ∀ i, i < 64 → (l.toBitVec.getLsbD i = true ↔ 64 * b + i < 2 ^ q ∧ B (64 * b + i) / 2 ^ x % 2 = 0)) (hr : r = u &&& l) (h0 : r.toInt = 0) : z_tbk B q t y n b (x + 1) β := by
  have hz := (z_andz hr).mp h0
  refine ⟨h.1, fun i hi => ?_⟩
  rw [h.2 i hi]
  refine ⟨fun a s h1 h2 h3 => ?_, fun a s h1 h2 h3 => a s h1 h2 ?_⟩
  · rcases h3 with h3 | ⟨h3, h4⟩
    · exact a s h1 h2 (Or.inl h3)
    · by_cases c : i < x
      · exact a s h1 h2 (Or.inr ⟨h3, c⟩)
      · obtain rfl : i = x := by omega
        by_cases c2 : s < 64 * b
        · exact a s h1 h2 (Or.inl c2)
        · intro hB
          have es : 64 * b + (s - 64 * b) = s := by omega
          refine hz (s - 64 * b) (by omega) ⟨(hl _ (by omega)).mpr ⟨by generalize 2 ^ q = P at *; omega, ?_⟩, (hk _ (by omega)).mpr ?_⟩
          · rw [es]; exact h2
          · rw [es]; exact ⟨h1, hB⟩
  · rcases h3 with h3 | ⟨h3, h4⟩
    · exact Or.inl h3
    · exact Or.inr ⟨h3, by omega⟩
theorem z_tbkC {γ : Nat} (h : z_tbk B q t y n b x β) (hl : z_hw q y n b u) (hk : ∀ i, i < 64 → (l.toBitVec.getLsbD i = true ↔ 64 * b + i < 2 ^ q ∧ B (64 * b + i) / 2 ^ x % 2 = 0)) (hr : r = u &&& l) (h0 : r.toInt ≠ 0) (ht : t ≤ 8) (hγ : γ ≤ β) (hg : ∀ i, i < 32 → (γ / 2 ^ i % 2 = 1 ↔ β / 2 ^ i % 2 = 1 ∧ i ≠ x)) : z_tbk B q t y n b (x + 1) γ := by
  have hz : ∃ j, j < 64 ∧ u.toBitVec.getLsbD j = true ∧ l.toBitVec.getLsbD j = true := by
    refine Classical.byContradiction fun hn => h0 ((z_andz hr).mpr fun i hi hh => hn ⟨i, hi, hh.1, hh.2⟩)
  obtain ⟨j, hj, hu, hlj⟩ := hz
  have h1 := (hl j hj).mp hu
  have h2 := (hk j hj).mp hlj
  refine ⟨Nat.lt_of_le_of_lt hγ h.1, fun i hi => ?_⟩
  rw [hg i (by omega), h.2 i hi]
  refine ⟨fun a s g1 g2 g3 => ?_, fun a => ⟨fun s g1 g2 g3 => a s g1 g2 ?_, fun e => ?_⟩⟩
  · rcases g3 with g3 | ⟨g3, g4⟩
    · exact a.1 s g1 g2 (Or.inl g3)
    · exact a.1 s g1 g2 (Or.inr ⟨g3, by omega⟩)
  · rcases g3 with g3 | ⟨g3, g4⟩
    · exact Or.inl g3
    · exact Or.inr ⟨g3, by omega⟩
  · subst e
    exact a (64 * b + j) h2.1 h1.2 (Or.inr ⟨by omega, Nat.lt_succ_self _⟩) h2.2
end ZH2
/-- numbers of like bits -/
theorem z_beq {a b t : Nat} (ha : a < 2 ^ t) (hb : b < 2 ^ t) (h : ∀ i, i < t → (a / 2 ^ i % 2 = 1 ↔ b / 2 ^ i % 2 = 1)) : a = b := by
  apply Nat.eq_of_testBit_eq
  intro i
  by_cases c : i < t
  · have h1 := h i c
    rw [Nat.testBit_eq_decide_div_mod_eq, Nat.testBit_eq_decide_div_mod_eq]
    exact decide_eq_decide.mpr h1
  · have h2 : 2 ^ t ≤ 2 ^ i := Nat.pow_le_pow_right (by decide) (by omega)
    rw [Nat.testBit_lt_two_pow (Nat.lt_of_lt_of_le ha h2), Nat.testBit_lt_two_pow (Nat.lt_of_lt_of_le hb h2)]
/-- all ties that told answers break, however the others are answered -/
def z_brs (B : Nat → Nat) (q t y n : Nat) (x : Int) : Prop := 0 ≤ x ∧ x.toNat < 2 ^ t ∧ ∀ i, i < t → (x.toNat / 2 ^ i % 2 = 1 ↔ ∀ s, s < 2 ^ q → z_has s y n → B s / 2 ^ i % 2 = 1)
theorem z_tbkE {B : Nat → Nat} {q t y n b x : Nat} {v : Int32} (h : z_tbk B q t y n b x v.toInt.toNat) (hv : 0 ≤ v.toInt) (hq : 2 ^ q ≤ 64 * z_bl q) (hb : z_bl q ≤ b) : z_brs B q t y n v.toInt := by
  refine ⟨hv, h.1, fun i hi => ?_⟩
  rw [h.2 i hi]
  refine ⟨fun a s h1 h2 => ?_, fun a s h1 h2 _ => ?_⟩
  · have h3 := a s h1 h2 (Or.inl (by generalize 2 ^ q = P at *; omega))
    have := z_m2c (B s / 2 ^ i)
    generalize B s / 2 ^ i % 2 = r at *
    omega
  · have h3 := a s h1 h2
    rw [h3]
    decide
