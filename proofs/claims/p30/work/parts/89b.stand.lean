/-! told answers that can stand -/
theorem z_dbl {y n k : Nat} (hk : k < 10) : (y + 1024 * n) / 2 ^ k % 2 = y / 2 ^ k % 2 := by
  match k, hk with
  | 0, _ => show (y + 1024 * n) / 1 % 2 = y / 1 % 2; omega
  | 1, _ => show (y + 1024 * n) / 2 % 2 = y / 2 % 2; omega
  | 2, _ => show (y + 1024 * n) / 4 % 2 = y / 4 % 2; omega
  | 3, _ => show (y + 1024 * n) / 8 % 2 = y / 8 % 2; omega
  | 4, _ => show (y + 1024 * n) / 16 % 2 = y / 16 % 2; omega
  | 5, _ => show (y + 1024 * n) / 32 % 2 = y / 32 % 2; omega
  | 6, _ => show (y + 1024 * n) / 64 % 2 = y / 64 % 2; omega
  | 7, _ => show (y + 1024 * n) / 128 % 2 = y / 128 % 2; omega
  | 8, _ => show (y + 1024 * n) / 256 % 2 = y / 256 % 2; omega
  | 9, _ => show (y + 1024 * n) / 512 % 2 = y / 512 % 2; omega
theorem z_dbh {y n k : Nat} (hy : y < 1024) : (y + 1024 * n) / 2 ^ (k + 10) % 2 = n / 2 ^ k % 2 := by
  rw [Nat.pow_add, Nat.mul_comm (2 ^ k) (2 ^ 10), ← Nat.div_div_eq_div_mul]
  show (y + 1024 * n) / 1024 / 2 ^ k % 2 = n / 2 ^ k % 2
  rw [show (y + 1024 * n) / 1024 = n by omega]
/-- a told question's bits, as the program asks for them -/
theorem z_toY {p k r w : Int32} {y n : Nat} (hd : p.toInt = (y : Int) + 1024 * (n : Int) ∧ y < 1024 ∧ n < 1024) (hr : r = p >>> (k &&& 31)) (hw : w = r &&& 1) (k0 : 0 ≤ k.toInt ∧ k.toInt < 10) : w.toInt = ((y / 2 ^ k.toInt.toNat % 2 : Nat) : Int) := by
  rw [z_sbit hr hw (by omega) ⟨by omega, by omega⟩, show p.toInt.toNat = y + 1024 * n by omega, z_dbl (by omega)]
theorem z_toN {p k k2 r w : Int32} {y n : Nat} (hd : p.toInt = (y : Int) + 1024 * (n : Int) ∧ y < 1024 ∧ n < 1024) (hk : k2.toInt = k.toInt + 10) (hr : r = p >>> (k2 &&& 31)) (hw : w = r &&& 1) (k0 : 0 ≤ k.toInt ∧ k.toInt < 10) : w.toInt = ((n / 2 ^ k.toInt.toNat % 2 : Nat) : Int) := by
  rw [z_sbit hr hw (by omega) ⟨by omega, by omega⟩, show p.toInt.toNat = y + 1024 * n by omega, show k2.toInt.toNat = k.toInt.toNat + 10 by omega, z_dbh hd.2.1]
/-- a word that narrows, question by question -/
def z_gv (P : Nat → Prop) (Q : Nat → Nat → Prop) (y n x : Nat) (v : Int64) : Prop := ∀ i, i < 64 → (v.toBitVec.getLsbD i = true ↔ (P i ∧ ∀ k, k < x → (y / 2 ^ k % 2 = 1 → Q k i) ∧ (n / 2 ^ k % 2 = 1 → ¬ Q k i)))
def z_gh (P : Nat → Prop) (Q : Nat → Nat → Prop) (y n x : Nat) (v : Int64) : Prop := ∀ i, i < 64 → (v.toBitVec.getLsbD i = true ↔ ((P i ∧ ∀ k, k < x → (y / 2 ^ k % 2 = 1 → Q k i) ∧ (n / 2 ^ k % 2 = 1 → ¬ Q k i)) ∧ (y / 2 ^ x % 2 = 1 → Q x i)))
section ZG1
variable {P : Nat → Prop} {Q : Nat → Nat → Prop} {y n x : Nat} {v v1 u u2 : Int64} {a : Int32}
theorem z_gvy0 (h : z_gv P Q y n x v) (e : a.toInt = ((y / 2 ^ x % 2 : Nat) : Int)) (ha : a.toInt = 0) : z_gh P Q y n x v := fun i hi => by
  have h0 : y / 2 ^ x % 2 = 0 := by omega
  rw [h i hi, h0]
  exact ⟨fun b => ⟨b, fun c => by cases c⟩, fun b => b.1⟩
theorem z_gvy1 (h : z_gv P Q y n x v) (e : a.toInt = ((y / 2 ^ x % 2 : Nat) : Int)) (ha : a.toInt ≠ 0) (hu : ∀ i, i < 64 → (u.toBitVec.getLsbD i = true ↔ Q x i)) (hv : v1 = v &&& u) : z_gh P Q y n x v1 := fun i hi => by
  have h0 : y / 2 ^ x % 2 = 1 := by omega
  rw [hv, Int64.toBitVec_and, BitVec.getLsbD_and, Bool.and_eq_true, h i hi, hu i hi, h0]
  exact ⟨fun b => ⟨b.1, fun _ => b.2⟩, fun b => ⟨b.1, b.2 rfl⟩⟩
theorem z_gvn0 (h : z_gh P Q y n x v) (e : a.toInt = ((n / 2 ^ x % 2 : Nat) : Int)) (ha : a.toInt = 0) : z_gv P Q y n (x + 1) v := fun i hi => by
  have h0 : n / 2 ^ x % 2 = 0 := by omega
  rw [h i hi]
  refine ⟨fun b => ⟨b.1.1, fun k hk => ?_⟩, fun b => ⟨⟨b.1, fun k hk => b.2 k (by omega)⟩, (b.2 x (Nat.lt_succ_self x)).1⟩⟩
  by_cases c : k = x
  · rw [c]
    exact ⟨b.2, fun d => by rw [h0] at d; cases d⟩
  · exact b.1.2 k (by omega)
theorem z_gvn1 (h : z_gh P Q y n x v) (e : a.toInt = ((n / 2 ^ x % 2 : Nat) : Int)) (ha : a.toInt ≠ 0) (hu : ∀ i, i < 64 → (u.toBitVec.getLsbD i = true ↔ Q x i)) (hu2 : u2 = u ^^^ (-1)) (hv : v1 = v &&& u2) : z_gv P Q y n (x + 1) v1 := fun i hi => by
  have h0 : n / 2 ^ x % 2 = 1 := by omega
  have hb : u2.toBitVec.getLsbD i = true ↔ ¬ Q x i := by
    rw [hu2, Int64.toBitVec_xor, BitVec.getLsbD_xor, z_allbit i hi, Bool.xor_true, ← hu i hi]
    cases u.toBitVec.getLsbD i with
    | false => exact ⟨fun _ a => (by cases a), fun _ => rfl⟩
    | true => exact ⟨fun a => (by cases a), fun a => absurd rfl a⟩
  rw [hv, Int64.toBitVec_and, BitVec.getLsbD_and, Bool.and_eq_true, h i hi, hb]
  refine ⟨fun b => ⟨b.1.1.1, fun k hk => ?_⟩, fun b => ⟨⟨⟨b.1, fun k hk => b.2 k (by omega)⟩, (b.2 x (Nat.lt_succ_self x)).1⟩, (b.2 x (Nat.lt_succ_self x)).2 h0⟩⟩
  by_cases c : k = x
  · rw [c]
    exact ⟨b.1.2, fun _ => b.2⟩
  · exact b.1.1.2 k (by omega)
theorem z_gvE {x2 : Nat} (h : z_gv P Q y n x v) (hv : v.toInt = 0) (hx : x ≤ x2) : z_gv P Q y n x2 v := fun i hi => by
  have e : v = 0 := Int64.toInt_inj.mp (hv.trans rfl)
  refine ⟨fun b => ?_, fun b => (h i hi).mpr ⟨b.1, fun k hk => b.2 k (by omega)⟩⟩
  rw [e, z_nobit i hi] at b
  cases b
end ZG1
/-- the lawful sets of a span -/
theorem z_wspT : ∀ k : Nat, k < 64 → ∀ j : Nat, j < 64 → ((1 : Int64) <<< ((Int32.ofNat k).toInt64 &&& 63) - 1).toBitVec.getLsbD j = decide (j < k) := by decide +kernel
theorem z_gv0a {Q : Nat → Nat → Prop} {y n m s : Nat} {x0 : Int32} (h0 : x0.toInt = 0) (h : 64 * s + 64 ≤ m) : z_gv (fun j => 64 * s + j < m) Q y n x0.toInt.toNat (-1) := fun i hi => by
  rw [h0, z_allbit i hi]
  exact ⟨fun _ => ⟨(by omega : 64 * s + i < m), fun k hk => absurd hk (Nat.not_lt_zero k)⟩, fun _ => rfl⟩
theorem z_gv0b {Q : Nat → Nat → Prop} {y n m s : Nat} {x0 x : Int32} {z v : Int64} (h0 : x0.toInt = 0) (hx : x.toInt = (m : Int) - 64 * (s : Int)) (h1 : 0 ≤ x.toInt) (h2 : x.toInt < 64) (hz : z = (1 : Int64) <<< (x.toInt64 &&& 63)) (hv : v = z - 1) : z_gv (fun j => 64 * s + j < m) Q y n x0.toInt.toNat v := fun i hi => by
  have e : x = Int32.ofNat (m - 64 * s) := z_of32 (by omega) (by omega)
  rw [h0, hv, hz, e, z_wspT _ (by omega) i hi, decide_eq_true_eq]
  exact ⟨fun a => ⟨(by omega : 64 * s + i < m), fun k hk => absurd hk (Nat.not_lt_zero k)⟩, fun a => by have := a.1; omega⟩
def z_yb (Y : Nat → Int64) (sp k j : Nat) : Prop := (Y (k * sp + j / 64)).toBitVec.getLsbD (j % 64) = true
theorem z_ybw {Y : Nat → Int64} {sp k s : Nat} {l : Int64} (h : Y (k * sp + s) = l) : ∀ i, i < 64 → (l.toBitVec.getLsbD i = true ↔ z_yb Y sp k (64 * s + i)) := fun i hi => by
  unfold z_yb
  rw [show (64 * s + i) / 64 = s by omega, show (64 * s + i) % 64 = i by omega, h]
theorem z_lc_inj {B : Nat → Nat} {s s2 : Nat} (h1 : B s = 0) (h2 : B s2 = 0) (h : z_lc B s = z_lc B s2) : s = s2 := by
  by_cases c : s < s2
  · have := z_lc_lt B c h1
    omega
  · by_cases c2 : s2 < s
    · have := z_lc_lt B c2 h2
      omega
    · omega
theorem z_hasq {q s y n : Nat} (q10 : q ≤ 10) (hy : y < 2 ^ q) (hn : n < 2 ^ q) : z_has s y n ↔ ∀ k, k < q → (y / 2 ^ k % 2 = 1 → s / 2 ^ k % 2 = 1) ∧ (n / 2 ^ k % 2 = 1 → s / 2 ^ k % 2 = 0) := by
  refine ⟨fun h k hk => h k (by omega), fun h k hk => ?_⟩
  by_cases c : k < q
  · exact h k c
  · have h2 : 2 ^ q ≤ 2 ^ k := Nat.pow_le_pow_right (n := 2) (by decide) (by omega)
    rw [Nat.div_eq_of_lt (Nat.lt_of_lt_of_le hy h2), Nat.div_eq_of_lt (Nat.lt_of_lt_of_le hn h2)]
    exact ⟨fun a => (by cases a), fun a => by cases a⟩
/-- the lawful sets of a span that have told answers -/
theorem z_gvS {B : Nat → Nat} {q m sp y n s : Nat} {Y : Nat → Int64} {v : Int64} (hY : z_YO B (2 ^ q) 0 q sp Y) (hm : m = z_lc B (2 ^ q)) (q10 : q ≤ 10) (hy : y < 2 ^ q) (hn : n < 2 ^ q) (hs : s < sp) (h : z_gv (fun j => 64 * s + j < m) (fun k j => z_yb Y sp k (64 * s + j)) y n q v) : ∀ i, i < 64 → (v.toBitVec.getLsbD i = true ↔ ∃ a, a < 2 ^ q ∧ B a = 0 ∧ z_lc B a = 64 * s + i ∧ z_has a y n) := fun i hi => by
  have hQ : ∀ a, a < 2 ^ q → B a = 0 → z_lc B a = 64 * s + i → ∀ k, k < q → (z_yb Y sp k (64 * s + i) ↔ a / 2 ^ k % 2 = 1) := fun a h1 h2 h3 k hk => by
    unfold z_yb
    rw [hY k hk (64 * s + i) (by omega)]
    refine ⟨fun ⟨a2, g1, g2, g3, g4⟩ => ?_, fun g => ⟨a, Or.inl h1, h2, h3, g⟩⟩
    rw [z_lc_inj h2 g2 (h3.trans g3.symm)]
    exact g4
  rw [h i hi]
  refine ⟨fun ⟨g1, g2⟩ => ?_, fun ⟨a, h1, h2, h3, h4⟩ => ⟨?_, fun k hk => ?_⟩⟩
  · obtain ⟨a, h1, h2, h3⟩ := z_lc_ex (B := B) (2 ^ q) (64 * s + i) (by rw [← hm]; exact g1)
    refine ⟨a, h1, h2, h3, (z_hasq q10 hy hn).mpr fun k hk => ⟨fun b => (hQ a h1 h2 h3 k hk).mp ((g2 k hk).1 b), fun b => z_m2n fun c => (g2 k hk).2 b ((hQ a h1 h2 h3 k hk).mpr c)⟩⟩
  · have := z_lc_lt B h1 h2
    show 64 * s + i < m
    omega
  · have h5 := (z_hasq q10 hy hn).mp h4 k hk
    refine ⟨fun b => (hQ a h1 h2 h3 k hk).mpr (h5.1 b), fun b c => ?_⟩
    have h6 := (hQ a h1 h2 h3 k hk).mp c
    rw [h5.2 b] at h6
    cases h6
/-- told answers can stand -/
def z_cs (B : Nat → Nat) (q y n : Nat) : Prop := ∃ s, s < 2 ^ q ∧ B s = 0 ∧ z_has s y n
/-- none of the first spans' sets has them -/
def z_csn (B : Nat → Nat) (q y n b : Nat) : Prop := ∀ s, s < 2 ^ q → B s = 0 → z_has s y n → 64 * b ≤ z_lc B s
section ZG2
variable {B : Nat → Nat} {q m y n b : Nat} {Y : Nat → Int64} {v : Int64}
theorem z_csn0 {x0 : Int32} (h0 : x0.toInt = 0) : z_csn B q y n x0.toInt.toNat := fun s _ _ _ => by
  rw [h0]
  exact Nat.zero_le _
theorem z_csnS (hv : ∀ i, i < 64 → (v.toBitVec.getLsbD i = true ↔ ∃ a, a < 2 ^ q ∧ B a = 0 ∧ z_lc B a = 64 * b + i ∧ z_has a y n)) (h0 : v.toInt = 0) (h : z_csn B q y n b) : z_csn B q y n (b + 1) := fun s h1 h2 h3 => by
  have h4 := h s h1 h2 h3
  by_cases c : 64 * (b + 1) ≤ z_lc B s
  · exact c
  · have e : v = 0 := Int64.toInt_inj.mp (h0.trans rfl)
    have h5 := (hv (z_lc B s - 64 * b) (by omega)).mpr ⟨s, h1, h2, by omega, h3⟩
    rw [e, z_nobit _ (by omega)] at h5
    cases h5
theorem z_csY (hv : ∀ i, i < 64 → (v.toBitVec.getLsbD i = true ↔ ∃ a, a < 2 ^ q ∧ B a = 0 ∧ z_lc B a = 64 * b + i ∧ z_has a y n)) (h0 : v.toInt ≠ 0) : z_cs B q y n := by
  refine Classical.byContradiction fun hn => h0 ?_
  have e : v = 0 := z_bitsE.mpr fun i hi => by
    cases c : v.toBitVec.getLsbD i with
    | false => rfl
    | true =>
      obtain ⟨a, h1, h2, _, h3⟩ := (hv i hi).mp c
      exact absurd ⟨a, h1, h2, h3⟩ hn
  rw [e]
  rfl
theorem z_csN (h : z_csn B q y n b) (hm : m = z_lc B (2 ^ q)) (hb : z_sp m ≤ b) : ¬ z_cs B q y n := fun ⟨s, h1, h2, h3⟩ => by
  have h4 := h s h1 h2 h3
  have h5 := z_lc_lt B h1 h2
  unfold z_sp at hb
  omega
end ZG2
/-- hasThese -/
theorem z_htb {s y n : Int32} (hs : 0 ≤ s.toInt ∧ s.toInt < 1024) (hy : 0 ≤ y.toInt ∧ y.toInt < 1024) (hn : 0 ≤ n.toInt ∧ n.toInt < 1024) : ((s &&& y).toInt = y.toInt ∧ (s &&& n).toInt = 0) ↔ z_has s.toInt.toNat y.toInt.toNat n.toInt.toNat := by
  have hA : ∀ i, (s &&& y).toBitVec.getLsbD i = (s.toBitVec.getLsbD i && y.toBitVec.getLsbD i) := fun i => by rw [Int32.toBitVec_and, BitVec.getLsbD_and]
  have hB : ∀ i, (s &&& n).toBitVec.getLsbD i = (s.toBitVec.getLsbD i && n.toBitVec.getLsbD i) := fun i => by rw [Int32.toBitVec_and, BitVec.getLsbD_and]
  rw [z_z32 (v := s &&& n)]
  refine ⟨fun h k hk => ⟨fun a => ?_, fun a => ?_⟩, fun h => ⟨?_, fun i hi => ?_⟩⟩
  · have e : s &&& y = y := Int32.toInt_inj.mp h.1
    have h1 := hA k
    rw [e, (z_bt32 hy.1 k).mpr a, Bool.and_true] at h1
    exact (z_bt32 hs.1 k).mp h1.symm
  · have h1 := hB k
    rw [h.2 k (by omega), (z_bt32 hn.1 k).mpr a, Bool.and_true] at h1
    refine z_m2n fun c => ?_
    rw [(z_bt32 hs.1 k).mpr c] at h1
    cases h1
  · have e : (s &&& y).toBitVec = y.toBitVec := by
      apply BitVec.eq_of_getLsbD_eq
      intro i hi
      rw [hA i]
      cases c : y.toBitVec.getLsbD i with
      | false => rw [Bool.and_false]
      | true =>
        have c2 := (z_bt32 hy.1 i).mp c
        have h9 := z_hi9 (by omega) c2
        rw [(z_bt32 hs.1 i).mpr ((h i h9).1 c2), Bool.and_true]
    exact congrArg BitVec.toInt e
  · rw [hB i]
    cases c : n.toBitVec.getLsbD i with
    | false => rw [Bool.and_false]
    | true =>
      have c2 := (z_bt32 hn.1 i).mp c
      have h9 := z_hi9 (by omega) c2
      have h3 := (h i h9).2 c2
      cases c3 : s.toBitVec.getLsbD i with
      | false => rfl
      | true =>
        have c4 := (z_bt32 hs.1 i).mp c3
        rw [h3] at c4
        cases c4
/-- the reference's canStand -/
def y_ht (s y n : Int32) : Prop := (s &&& y).toInt = y.toInt ∧ (s &&& n).toInt = 0
def y_cs (S : Nat → Int32) (y n : Int32) (i : Nat) : Prop := ∃ j, j < i ∧ y_ht (S j) y n
theorem y_csE {B : Nat → Nat} {q m : Nat} {S : Nat → Int32} {y n : Int32} (hS : z_LS B (2 ^ q) S) (hm : m = z_lc B (2 ^ q)) (q10 : q ≤ 10) (hy : 0 ≤ y.toInt ∧ y.toInt < 1024) (hn : 0 ≤ n.toInt ∧ n.toInt < 1024) : y_cs S y n m ↔ z_cs B q y.toInt.toNat n.toInt.toNat := by
  have hP : 2 ^ q ≤ 1024 := Nat.pow_le_pow_right (n := 2) (by decide) q10
  have hk : ∀ s, s < 2 ^ q → B s = 0 → (y_ht (S (z_lc B s)) y n ↔ z_has s y.toInt.toNat n.toInt.toNat) := fun s h1 h2 => by
    have h3 := hS s h1 h2
    have h4 := z_htb (s := S (z_lc B s)) ⟨by omega, by omega⟩ hy hn
    rw [show (S (z_lc B s)).toInt.toNat = s by omega] at h4
    exact h4
  refine ⟨fun ⟨j, h1, h2⟩ => ?_, fun ⟨s, h1, h2, h3⟩ => ⟨z_lc B s, ?_, (hk s h1 h2).mpr h3⟩⟩
  · obtain ⟨s, g1, g2, g3⟩ := z_lc_ex (B := B) (2 ^ q) j (by rw [← hm]; exact h1)
    rw [← g3] at h2
    exact ⟨s, g1, g2, (hk s g1 g2).mp h2⟩
  · rw [hm]
    exact z_lc_lt B h1 h2
/-- yes and no ones of all questions, none both -/
def z_ans (q : Nat) (y n : Int32) : Prop := (0 ≤ y.toInt ∧ y.toInt < ((2 ^ q : Nat) : Int)) ∧ (0 ≤ n.toInt ∧ n.toInt < ((2 ^ q : Nat) : Int)) ∧ (y &&& n).toInt = 0
theorem z_ans.lt {q : Nat} {y n : Int32} (h : z_ans q y n) (q10 : q ≤ 10) : (0 ≤ y.toInt ∧ y.toInt < 1024 ∧ y.toInt.toNat < 2 ^ q) ∧ (0 ≤ n.toInt ∧ n.toInt < 1024 ∧ n.toInt.toNat < 2 ^ q) := by
  have hP : 2 ^ q ≤ 1024 := Nat.pow_le_pow_right (n := 2) (by decide) q10
  obtain ⟨h1, h2, _⟩ := h
  generalize 2 ^ q = P at *
  exact ⟨⟨by omega, by omega, by omega⟩, by omega, by omega, by omega⟩
theorem z_told {y n c e : Int32} (hy : 0 ≤ y.toInt ∧ y.toInt < 1024) (hn : 0 ≤ n.toInt ∧ n.toInt < 1024) (hc : c = n <<< ((10 : Int32) &&& 31)) (he : e = y ||| c) : e.toInt = (y.toInt.toNat : Int) + 1024 * (n.toInt.toNat : Int) ∧ y.toInt.toNat < 1024 ∧ n.toInt.toNat < 1024 := by
  have h1 : c.toInt = n.toInt * 1024 := by rw [hc]; exact z_pShl 10 rfl rfl (by decide) (by decide) hn.1 rfl (by omega)
  have hcn := z_nn (x := c) (by omega)
  have hyn := z_nn hy.1
  have h2 : e.toBitVec.toNat = y.toBitVec.toNat + c.toBitVec.toNat := by
    rw [he, Int32.toBitVec_or, BitVec.toNat_or, Nat.or_comm, show c.toBitVec.toNat = 2 ^ 10 * n.toInt.toNat by omega, ← Nat.two_pow_add_eq_or_of_lt (i := 10) (by omega), Nat.add_comm]
  have h3 : e.toInt = (e.toBitVec.toNat : Int) := BitVec.toInt_eq_toNat_of_lt (by omega)
  exact ⟨by omega, by omega, by omega⟩
