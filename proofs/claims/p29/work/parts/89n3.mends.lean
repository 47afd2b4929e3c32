/-! mend of the reference: benches of sets gone through -/
def z_bof (n L : Nat) (y : Nat → Nat) : Prop := (∀ j, j < n → y j < L) ∧ ∀ j, j + 1 < n → y j ≤ y (j + 1)
def z_okbf (n q : Nat) (D : Nat → Nat) (y : Nat → Nat) : Prop := z_md n q (fun j => z_nth D (2 ^ q) (y j)) (z_inL (z_lc D (2 ^ q)) (z_nth D (2 ^ q)))
def z_mdS (n q : Nat) (D : Nat → Nat) : Prop := z_mdR n q (z_lc D (2 ^ q)) (z_nth D (2 ^ q))
def z_nuM (f : Nat → Int32) (i : Nat) : Nat := (f i).toInt.toNat
def z_mO (n q : Nat) (D : Nat → Nat) (f : Nat → Int32) : Prop := z_bof n (z_lc D (2 ^ q)) (z_nuM f) ∧ ∀ y, z_bof n (z_lc D (2 ^ q)) y → z_lx n y (z_nuM f) → z_okbf n q D y
def z_mT (n q : Nat) (D : Nat → Nat) (f : Nat → Int32) (g mo : Int) : Prop := (g = 1 ∧ mo = 1 ∧ z_mO n q D f) ∨ (g = 1 ∧ mo = 0 ∧ z_mdS n q D) ∨ (g = 0 ∧ ¬ z_mdS n q D)
/-- the seats -/
def z_sts (f39 f40 f41 f : Nat → Int32) (q : Nat) (D : Nat → Nat) (n : Nat) : Prop := ∀ j, j < n → (f39 j).toInt = 1 ∧ (f40 j).toInt = ((z_nth D (2 ^ q) (z_nuM f j) : Nat) : Int) ∧ 0 ≤ (f41 j).toInt ∧ ∀ k, k < q → (f41 j).toInt.toNat.testBit k = !(z_nth D (2 ^ q) (z_nuM f j)).testBit k
def z_mY (n q : Nat) (D : Nat → Nat) (f : Nat → Int32) (y nn : Int) : Prop := (0 ≤ y ∧ y < 1024) ∧ (0 ≤ nn ∧ nn < 1024) ∧ ∀ k, k < 10 → (y.toNat / 2 ^ k % 2 = 1 ↔ k < q ∧ n < 2 * z_ctb (fun j => z_nth D (2 ^ q) (z_nuM f j)) k n) ∧ (nn.toNat / 2 ^ k % 2 = 1 ↔ k < q ∧ 2 * z_ctb (fun j => z_nth D (2 ^ q) (z_nuM f j)) k n < n)
def y_hsM (y n s : Int32) : Prop := (s &&& y).toInt = y.toInt ∧ (s &&& n).toInt = 0
def z_cnm (S : Nat → Int32) (y n : Int32) (i : Nat) (x : Int) : Prop := (x = 1 ∧ ∃ k, k < i ∧ y_hsM y n (S k)) ∨ (x = 0 ∧ ∀ k, k < i → ¬ y_hsM y n (S k))
def z_mD (n q : Nat) (D : Nat → Nat) (f : Nat → Int32) (g : Int) : Prop := (g = 1 ∧ z_okbf n q D (z_nuM f)) ∨ (g = 0 ∧ ¬ z_okbf n q D (z_nuM f))
def z_mJ (L : Nat) (f : Nat → Int32) (j n : Int) : Prop := ∀ i : Nat, j < (i : Int) → (i : Int) < n → (f i).toInt + 1 = (L : Int)
def z_mX (n q : Nat) (D : Nat → Nat) (f : Nat → Int32) (g mo j v b : Int) : Prop := (mo = 0 ∧ ((g = 1 ∧ z_mdS n q D) ∨ (g = 0 ∧ ¬ z_mdS n q D))) ∨ (mo = 1 ∧ ∃ (f0 : Nat → Nat) (J : Nat), j = (J : Int) ∧ J < n ∧ v = (f0 J : Int) + 1 ∧ f0 J + 1 < z_lc D (2 ^ q) ∧ z_bof n (z_lc D (2 ^ q)) f0 ∧ (∀ i, J < i → i < n → f0 i + 1 = z_lc D (2 ^ q)) ∧ ((g = 1 ∧ z_okbf n q D f0 ∧ ∀ y, z_bof n (z_lc D (2 ^ q)) y → z_lx n y f0 → z_okbf n q D y) ∨ (g = 0 ∧ ¬ z_okbf n q D f0)) ∧ (∀ i, i < J → z_nuM f i = f0 i) ∧ ∀ i : Nat, J ≤ i → (i : Int) < b → (f i).toInt = v)
theorem z_mdSo {n q : Nat} {D : Nat → Nat} : z_mdS n q D ↔ ∀ y, z_bof n (z_lc D (2 ^ q)) y → z_okbf n q D y := ⟨fun h y hy => h y hy.1 hy.2, fun h y h1 h2 => h y ⟨h1, h2⟩⟩
theorem z_ofNH : ∀ k, k < 33 → (Int32.ofNat k).toInt = (k : Int) := by decide +kernel
section ZME
variable {n q : Nat} {D : Nat → Nat} {f f1 : Nat → Int32} {g mo j v b : Int}
theorem z_mT0 {n2 : Int} {M : zH} (h : z_NB M n2 1) (hn : n2 = (n : Int)) (hL : 1 ≤ z_lc D (2 ^ q)) (hg : g = 1) (hm : mo = 1) : z_mT n q D (z_Ar M 43) g mo := by
  have hz : ∀ i, i < n → z_nuM (z_Ar M 43) i = 0 := fun i hi => by
    have := h i (by omega)
    show (z_Ar M 43 i).toInt.toNat = 0
    omega
  refine Or.inl ⟨hg, hm, ⟨fun j hj => by rw [hz j hj]; omega, fun j hj => by rw [hz j (by omega)]; exact Nat.zero_le _⟩, fun y _ hl => (z_lx0 hl hz).elim⟩
theorem z_mTE {B : Nat → Nat} {t d : Nat} {x : Int} (h : z_mT n q (z_dB B t q d) f g mo) (hL : z_lc (z_dB B t q d) (2 ^ q) ≤ 12) (h0 : g = 0 ∨ mo = 0) (hx : x = g) : (x = 1 ∧ z_sfe B t q n d) ∨ (x = 0 ∧ ¬ z_sfe B t q n d) := by
  rcases h with ⟨h1, h2, _⟩ | ⟨h1, h2, h3⟩ | ⟨h1, h2⟩
  · omega
  · exact Or.inl ⟨by omega, hL, h3⟩
  · exact Or.inr ⟨by omega, fun h => h2 h.2⟩
theorem z_mTO (h : z_mT n q D f g mo) (h0 : g ≠ 0) (h1 : mo ≠ 0) : z_mO n q D f := by
  rcases h with ⟨_, _, h3⟩ | ⟨_, h2, _⟩ | ⟨h2, _⟩
  · exact h3
  · exact absurd h2 h1
  · exact absurd h2 h0
theorem z_sts0 {f39 f40 f41 : Nat → Int32} {i0 : Int32} (h : i0.toInt = 0) : z_sts f39 f40 f41 f q D i0.toInt.toNat := fun j hj => by
  rw [h] at hj
  exact absurd hj (Nat.not_lt_zero j)
theorem z_alB {al s xo w : Int32} (q10 : q ≤ 10) (hal : al.toInt = ((2 ^ q : Nat) : Int) - 1) (hs : 0 ≤ s.toInt) (hx : xo = s ^^^ ((-1) : Int32)) (hw : w = al &&& xo) : 0 ≤ w.toInt ∧ ∀ k, k < q → w.toInt.toNat.testBit k = !s.toInt.toNat.testBit k := by
  have hp := Nat.two_pow_pos q
  have ha := z_nn (x := al) (by omega)
  have hm : ((-1 : Int32)).toBitVec = BitVec.allOnes 32 := by decide
  have h1 : w.toBitVec.toNat ≤ al.toBitVec.toNat := by
    rw [hw, Int32.toBitVec_and, BitVec.toNat_and]
    exact Nat.and_le_left
  have h2 : w.toInt = (w.toBitVec.toNat : Int) := BitVec.toInt_eq_toNat_of_lt (by omega)
  have w0 : 0 ≤ w.toInt := by omega
  refine ⟨w0, fun k hk => ?_⟩
  rw [← z_tbI w0 k, ← z_tbI hs k, hw, hx, Int32.toBitVec_and, BitVec.getLsbD_and, Int32.toBitVec_xor, BitVec.getLsbD_xor, hm, BitVec.getLsbD_allOnes, decide_eq_true (show k < 32 by omega), Bool.xor_true, z_tbI (x := al) (by omega) k, show al.toInt.toNat = 2 ^ q - 1 by generalize (2 : Nat) ^ q = P at *; omega, Nat.testBit_two_pow_sub_one, decide_eq_true hk, Bool.true_and]
theorem z_stsS {f39 f40 f41 g39 g40 g41 : Nat → Int32} {i i2 s al xo w : Int32} (h : z_sts f39 f40 f41 f q D i.toInt.toNat) (h0 : 0 ≤ i.toInt) (hi : i2.toInt = i.toInt + 1) (e39 : g39 = upd f39 i.toNatClampNeg 1) (e40 : g40 = upd f40 i.toNatClampNeg s) (e41 : g41 = upd f41 i.toNatClampNeg w) (hs : s.toInt = ((z_nth D (2 ^ q) (z_nuM f i.toInt.toNat) : Nat) : Int)) (q10 : q ≤ 10) (hal : al.toInt = ((2 ^ q : Nat) : Int) - 1) (hx : xo = s ^^^ ((-1) : Int32)) (hw : w = al &&& xo) : z_sts g39 g40 g41 f q D i2.toInt.toNat := fun j hj => by
  rw [e39, e40, e41]
  show ((if j = i.toInt.toNat then (1 : Int32) else f39 j).toInt = 1) ∧ (if j = i.toInt.toNat then s else f40 j).toInt = _ ∧ 0 ≤ (if j = i.toInt.toNat then w else f41 j).toInt ∧ ∀ k, k < q → (if j = i.toInt.toNat then w else f41 j).toInt.toNat.testBit k = _
  by_cases c : j = i.toInt.toNat
  · rw [if_pos c, if_pos c, if_pos c, c]
    obtain ⟨w0, hb⟩ := z_alB q10 hal (by omega) hx hw
    refine ⟨rfl, hs, w0, fun k hk => ?_⟩
    rw [hb k hk, show s.toInt.toNat = z_nth D (2 ^ q) (z_nuM f i.toInt.toNat) by omega]
  · rw [if_neg c, if_neg c, if_neg c]
    exact h j (by omega)
theorem z_nthI {S : Nat → Int32} {x : Int32} {i : Nat} {s : Int32} (hS : z_LS D (2 ^ q) S) (hx : f i = x) (hb : 0 ≤ x.toInt ∧ x.toInt < ((z_lc D (2 ^ q) : Nat) : Int)) (hs : S x.toNatClampNeg = s) : s.toInt = ((z_nth D (2 ^ q) (z_nuM f i) : Nat) : Int) := by
  have e : z_nuM f i = x.toInt.toNat := by
    show (f i).toInt.toNat = _
    rw [hx]
  rw [e, ← hs]
  exact z_nthF hS (k := x.toInt.toNat) (by omega)
theorem z_bnT (x k : Nat) : z_bn (x.testBit k) = x / 2 ^ k % 2 := by
  rw [Nat.testBit_eq_decide_div_mod_eq]
  rcases Nat.mod_two_eq_zero_or_one (x / 2 ^ k) with h | h
  · rw [h]
    rfl
  · rw [h]
    rfl
theorem z_bnB (b : Bool) : z_bn b ≤ 1 := by cases b <;> decide
theorem z_ctbL {x : Nat → Nat} {k : Nat} : ∀ m, z_ctb x k m ≤ m
  | 0 => Nat.le_refl 0
  | m + 1 => by
    have h1 := z_ctbL (x := x) (k := k) m
    have h2 := z_bnB ((x m).testBit k)
    show z_ctb x k m + z_bn ((x m).testBit k) ≤ m + 1
    omega
theorem z_vs1 {y w : Nat → Int32} {x : Nat → Nat} {k : Nat} (hk : k < 10) : ∀ m, m ≤ 9 → (∀ j, j < m → (w j).toInt = 1 ∧ 0 ≤ (y j).toInt ∧ (y j).toInt.toNat.testBit k = (x j).testBit k) → (z_vs y w (Int32.ofNat k) m).toInt = ((z_ctb x k m : Nat) : Int)
  | 0, _, _ => rfl
  | m + 1, hm, h => by
    have ih := z_vs1 hk m (by omega) fun j hj => h j (by omega)
    obtain ⟨h1, h2, h3⟩ := h m (Nat.lt_succ_self m)
    have ek : (Int32.ofNat k).toInt = (k : Int) := z_ofNH k (by omega)
    have e := z_sbit (x := y m) (k := Int32.ofNat k) rfl rfl h2 (by omega)
    have e1 : w m = 1 := Int32.toInt_inj.mp h1
    have hb := z_bnT (y m).toInt.toNat k
    rw [h3] at hb
    rw [show (Int32.ofNat k).toInt.toNat = k by omega, ← hb] at e
    have hl := z_ctbL (x := x) (k := k) m
    have hl2 := z_bnB ((x m).testBit k)
    show (z_vs y w (Int32.ofNat k) m + ((y m >>> (Int32.ofNat k &&& 31)) &&& 1) * w m).toInt = ((z_ctb x k m + z_bn ((x m).testBit k) : Nat) : Int)
    rw [e1, Int32.mul_one, z_pAdd ih e (by omega) (by omega)]
    omega
theorem z_ctbN {x x2 : Nat → Nat} {k : Nat} : ∀ m, (∀ j, j < m → (x2 j).testBit k = !(x j).testBit k) → z_ctb x2 k m + z_ctb x k m = m
  | 0, _ => rfl
  | m + 1, h => by
    have ih := z_ctbN m fun j hj => h j (by omega)
    show z_ctb x2 k m + z_bn ((x2 m).testBit k) + (z_ctb x k m + z_bn ((x m).testBit k)) = m + 1
    rw [h m (Nat.lt_succ_self m)]
    cases (x m).testBit k
    · show z_ctb x2 k m + 1 + (z_ctb x k m + 0) = m + 1
      omega
    · show z_ctb x2 k m + 0 + (z_ctb x k m + 1) = m + 1
      omega
theorem z_mYI {f39 f40 f41 : Nat → Int32} {al y nn sv : Int32} (hst : z_sts f39 f40 f41 f q D n) (n9 : n ≤ 9) (q10 : q ≤ 10) (hal : al.toInt = ((2 ^ q : Nat) : Int) - 1) (hsv : sv.toInt.toNat = n) (hy : z_wy (z_hdP al.toInt.toNat (fun k => (z_vs f41 f39 (Int32.ofNat k) sv.toInt.toNat).toInt) (fun k => (z_vs f40 f39 (Int32.ofNat k) sv.toInt.toNat).toInt)) q y.toInt) (hn : z_wy (z_hdP al.toInt.toNat (fun k => (z_vs f40 f39 (Int32.ofNat k) sv.toInt.toNat).toInt) (fun k => (z_vs f41 f39 (Int32.ofNat k) sv.toInt.toNat).toInt)) q nn.toInt) : z_mY n q D f y.toInt nn.toInt := by
  rw [hsv] at hy hn
  have hp := Nat.two_pow_pos q
  have hF : ∀ k, k < q → (z_vs f40 f39 (Int32.ofNat k) n).toInt = ((z_ctb (fun j => z_nth D (2 ^ q) (z_nuM f j)) k n : Nat) : Int) := fun k hk => z_vs1 (by omega) n n9 fun j hj => by
    obtain ⟨h1, h2, h3, h4⟩ := hst j hj
    exact ⟨h1, by omega, by rw [show (f40 j).toInt.toNat = z_nth D (2 ^ q) (z_nuM f j) by omega]⟩
  have hA : ∀ k, k < q → (z_vs f41 f39 (Int32.ofNat k) n).toInt = ((z_ctb (fun j => (f41 j).toInt.toNat) k n : Nat) : Int) := fun k hk => z_vs1 (by omega) n n9 fun j hj => by
    obtain ⟨h1, h2, h3, h4⟩ := hst j hj
    exact ⟨h1, h3, rfl⟩
  have hs : ∀ k, k < q → z_ctb (fun j => (f41 j).toInt.toNat) k n + z_ctb (fun j => z_nth D (2 ^ q) (z_nuM f j)) k n = n := fun k hk => z_ctbN n fun j hj => (hst j hj).2.2.2 k hk
  have hb : ∀ k, k < q → al.toInt.toNat / 2 ^ k % 2 = 1 := fun k hk => by
    have h1 := Nat.testBit_two_pow_sub_one q k
    rw [decide_eq_true hk, Nat.testBit_eq_decide_div_mod_eq] at h1
    rw [show al.toInt.toNat = 2 ^ q - 1 by generalize (2 : Nat) ^ q = P at *; omega]
    exact of_decide_eq_true h1
  refine ⟨hy.1, hn.1, fun k hk => ⟨?_, ?_⟩⟩
  · rw [hy.2 k hk]
    refine ⟨fun ⟨a, b⟩ => ⟨a, ?_⟩, fun ⟨a, b⟩ => ⟨a, hb k a, ?_⟩⟩
    · have h1 := b.2
      dsimp only at h1
      rw [hF k a, hA k a] at h1
      have := hs k a
      omega
    · show (z_vs f41 f39 (Int32.ofNat k) n).toInt < (z_vs f40 f39 (Int32.ofNat k) n).toInt
      rw [hF k a, hA k a]
      have := hs k a
      omega
  · rw [hn.2 k hk]
    refine ⟨fun ⟨a, b⟩ => ⟨a, ?_⟩, fun ⟨a, b⟩ => ⟨a, hb k a, ?_⟩⟩
    · have h1 := b.2
      dsimp only at h1
      rw [hF k a, hA k a] at h1
      have := hs k a
      omega
    · show (z_vs f40 f39 (Int32.ofNat k) n).toInt < (z_vs f41 f39 (Int32.ofNat k) n).toInt
      rw [hF k a, hA k a]
      have := hs k a
      omega
theorem z_cn0 {S : Nat → Int32} {y nn : Int32} {i0 : Int32} {x : Int} (hi : i0.toInt = 0) (hx : x = 0) : z_cnm S y nn i0.toInt.toNat x := Or.inr ⟨hx, fun k hk => by
  rw [hi] at hk
  exact absurd hk (Nat.not_lt_zero k)⟩
theorem z_cnK {S : Nat → Int32} {y nn : Int32} {i : Nat} {x x2 : Int} (h : z_cnm S y nn i x) (hx : x ≠ 0) (h2 : x2 = 1) : z_cnm S y nn (i + 1) x2 := by
  rcases h with ⟨_, k, hk, h⟩ | ⟨h, _⟩
  · exact Or.inl ⟨h2, k, by omega, h⟩
  · exact absurd h hx
theorem z_cnY {S : Nat → Int32} {y nn s : Int32} {i : Nat} {x2 : Int} (hs : S i = s) (h : y_hsM y nn s) (h2 : x2 = 1) : z_cnm S y nn (i + 1) x2 := Or.inl ⟨h2, i, Nat.lt_succ_self i, by rw [hs]; exact h⟩
theorem z_cnN {S : Nat → Int32} {y nn s : Int32} {i : Nat} {x x2 : Int} (h : z_cnm S y nn i x) (hx : x = 0) (hs : S i = s) (h1 : ¬ y_hsM y nn s) (h2 : x2 = 0) : z_cnm S y nn (i + 1) x2 := by
  rcases h with ⟨h, _⟩ | ⟨_, h⟩
  · omega
  · refine Or.inr ⟨h2, fun k hk => ?_⟩
    by_cases c : k = i
    · rw [c, hs]
      exact h1
    · exact h k (by omega)
theorem z_hsB {y nn s : Int32} (hy : 0 ≤ y.toInt ∧ y.toInt < 1024) (hn : 0 ≤ nn.toInt ∧ nn.toInt < 1024) (hs : 0 ≤ s.toInt) : y_hsM y nn s ↔ ∀ k, k < 10 → (y.toInt.toNat / 2 ^ k % 2 = 1 → s.toInt.toNat.testBit k = true) ∧ (nn.toInt.toNat / 2 ^ k % 2 = 1 → s.toInt.toNat.testBit k = false) := by
  have a1 := z_n32a hs hy.1 (w := s &&& y) rfl
  have a2 := z_n32a hs hn.1 (w := s &&& nn) rfl
  have tb : ∀ (x : Nat) (k : Nat), x.testBit k = true ↔ x / 2 ^ k % 2 = 1 := fun x k => by rw [Nat.testBit_eq_decide_div_mod_eq, decide_eq_true_iff]
  have hi : ∀ (x : Nat), x < 1024 → ∀ k, 10 ≤ k → x.testBit k = false := fun x hx k hk => Nat.testBit_lt_two_pow (Nat.lt_of_lt_of_le hx (Nat.pow_le_pow_right (n := 2) (by decide) hk))
  unfold y_hsM
  constructor
  · intro ⟨h1, h2⟩ k hk
    refine ⟨fun a => ?_, fun a => ?_⟩
    · have h3 : (s.toInt.toNat &&& y.toInt.toNat).testBit k = y.toInt.toNat.testBit k := by rw [← a1.1, show (s &&& y).toInt.toNat = y.toInt.toNat by omega]
      rw [Nat.testBit_and, (tb _ _).mpr a, Bool.and_true] at h3
      exact h3
    · have h3 : (s.toInt.toNat &&& nn.toInt.toNat).testBit k = false := by rw [← a2.1, show (s &&& nn).toInt.toNat = 0 by omega, Nat.zero_testBit]
      rw [Nat.testBit_and, (tb _ _).mpr a, Bool.and_true] at h3
      exact h3
  · intro h
    have e1 : s.toInt.toNat &&& y.toInt.toNat = y.toInt.toNat := Nat.eq_of_testBit_eq fun k => by
      rw [Nat.testBit_and]
      by_cases c : k < 10
      · cases d : y.toInt.toNat.testBit k
        · rw [Bool.and_false]
        · rw [(h k c).1 ((tb _ _).mp d)]
          rfl
      · rw [hi y.toInt.toNat (by omega) k (by omega), Bool.and_false]
    have e2 : s.toInt.toNat &&& nn.toInt.toNat = 0 := Nat.eq_of_testBit_eq fun k => by
      rw [Nat.testBit_and, Nat.zero_testBit]
      by_cases c : k < 10
      · cases d : nn.toInt.toNat.testBit k
        · rw [Bool.and_false]
        · rw [(h k c).2 ((tb _ _).mp d)]
          rfl
      · rw [hi nn.toInt.toNat (by omega) k (by omega), Bool.and_false]
    rw [e1] at a1
    rw [e2] at a2
    exact ⟨by omega, by omega⟩
theorem z_okC {y nn : Int32} {S : Nat → Int32} (q10 : q ≤ 10) (hY : z_mY n q D f y.toInt nn.toInt) (hS : z_LS D (2 ^ q) S) {s : Int32} {i : Nat} (hi : i < z_lc D (2 ^ q)) (hs : S i = s) : y_hsM y nn s ↔ ∀ k, k < q → (n < 2 * z_ctb (fun j => z_nth D (2 ^ q) (z_nuM f j)) k n → (z_nth D (2 ^ q) i).testBit k = true) ∧ (2 * z_ctb (fun j => z_nth D (2 ^ q) (z_nuM f j)) k n < n → (z_nth D (2 ^ q) i).testBit k = false) := by
  obtain ⟨y1, n1, hb⟩ := hY
  have e := z_nthF hS hi
  rw [hs] at e
  rw [z_hsB y1 n1 (by omega), show s.toInt.toNat = z_nth D (2 ^ q) i by omega]
  constructor
  · intro h k hk
    exact ⟨fun a => (h k (by omega)).1 ((hb k (by omega)).1.mpr ⟨hk, a⟩), fun a => (h k (by omega)).2 ((hb k (by omega)).2.mpr ⟨hk, a⟩)⟩
  · intro h k hk
    exact ⟨fun a => (h k ((hb k hk).1.mp a).1).1 ((hb k hk).1.mp a).2, fun a => (h k ((hb k hk).2.mp a).1).2 ((hb k hk).2.mp a).2⟩
theorem z_cnE {y nn : Int32} {S : Nat → Int32} {m : Nat} {x x2 : Int} (q10 : q ≤ 10) (hY : z_mY n q D f y.toInt nn.toInt) (hS : z_LS D (2 ^ q) S) (h : z_cnm S y nn m x) (hm : m = z_lc D (2 ^ q)) (hx : x2 = x) : z_mD n q D f x2 := by
  subst hm
  rcases h with ⟨h1, i, hi, h2⟩ | ⟨h1, h2⟩
  · exact Or.inl ⟨by omega, _, ⟨i, hi, rfl⟩, (z_okC q10 hY hS hi rfl).mp h2⟩
  · refine Or.inr ⟨by omega, fun ⟨s, ⟨i, hi, e⟩, h3⟩ => h2 i hi ((z_okC q10 hY hS hi rfl).mpr ?_)⟩
    rw [e]
    exact h3
theorem z_mJ0 {L : Nat} {n2 : Int} (hj : j = n2 - 1) : z_mJ L f j n2 := fun i h1 h2 => by omega
theorem z_mJS {L : Nat} {n2 j2 : Int} {x : Int32} {i : Int32} (h : z_mJ L f i.toInt n2) (h0 : 0 ≤ i.toInt) (hx : f i.toNatClampNeg = x) (hL : x.toInt + 1 = (L : Int)) (hj : j2 = i.toInt - 1) : z_mJ L f j2 n2 := fun k h1 h2 => by
  by_cases c : (k : Int) = i.toInt
  · have e : k = i.toNatClampNeg := by
      show k = i.toInt.toNat
      omega
    rw [e, hx]
    exact hL
  · exact h k (by omega) h2
theorem z_mX0 {n2 : Int} (hO : z_mO n q D f) (hD : z_mD n q D f g) (hJ : z_mJ (z_lc D (2 ^ q)) f j n2) (hn : n2 = (n : Int)) (hm : mo = 0) (hj : j < 0) : z_mX n q D f g mo j v b := by
  refine Or.inl ⟨hm, ?_⟩
  rcases hD with ⟨g1, hD⟩ | ⟨g1, hD⟩
  · refine Or.inl ⟨g1, z_mdSo.mpr fun y hy => ?_⟩
    rcases z_lxle (y := y) (f := z_nuM f) (n := n) (fun i hi => by
      have h1 := hJ i (by omega) (by omega)
      have h2 := hy.1 i hi
      show y i ≤ (f i).toInt.toNat
      omega) n (Nat.le_refl n) with h1 | h1
    · exact z_mdC (fun i hi => by rw [h1 i hi]) hD
    · exact hO.2 y hy h1
  · exact Or.inr ⟨g1, fun h => hD (z_mdSo.mp h _ hO.1)⟩
theorem z_mX1 {n2 : Int} {x jx : Int32} (hO : z_mO n q D f) (hp : ∀ i, i < n → 0 ≤ (f i).toInt) (hD : z_mD n q D f g) (hJ : z_mJ (z_lc D (2 ^ q)) f jx.toInt n2) (hn : n2 = (n : Int)) (hm : mo = 1) (j0 : 0 ≤ jx.toInt) (j1 : jx.toInt < n2) (hx : f jx.toNatClampNeg = x) (hne : x.toInt + 1 ≠ ((z_lc D (2 ^ q) : Nat) : Int)) (hv : v = x.toInt + 1) (hb : b = jx.toInt) : z_mX n q D f g mo jx.toInt v b := by
  have e : z_nuM f jx.toInt.toNat = x.toInt.toNat := by
    show (f jx.toNatClampNeg).toInt.toNat = _
    rw [hx]
  have hx0 := hp jx.toInt.toNat (by omega)
  rw [show f jx.toInt.toNat = x from hx] at hx0
  have hl := hO.1.1 jx.toInt.toNat (by omega)
  rw [e] at hl
  refine Or.inr ⟨hm, z_nuM f, jx.toInt.toNat, by omega, by omega, by rw [e]; omega, by rw [e]; omega, hO.1, fun i h1 h2 => ?_, ?_, fun i _ => rfl, fun i h1 h2 => by omega⟩
  · have h3 := hJ i (by omega) (by omega)
    show (f i).toInt.toNat + 1 = _
    omega
  · rcases hD with ⟨g1, hD⟩ | ⟨g1, hD⟩
    · exact Or.inl ⟨g1, hD, hO.2⟩
    · exact Or.inr ⟨g1, hD⟩
theorem z_mXS {w k k2 : Int32} (h : z_mX n q D f g mo j v k.toInt) (h1 : f1 = upd f k.toNatClampNeg w) (hw : w.toInt = v) (hm : mo = 1) (k0 : 0 ≤ k.toInt) (hk : k2.toInt = k.toInt + 1) (hj : j ≤ k.toInt) : z_mX n q D f1 g mo j v k2.toInt := by
  rcases h with ⟨h, _⟩ | ⟨_, f0, J, a1, a2, a3, a4, a5, a6, a7, a8, a9⟩
  · omega
  · have ek : k.toNatClampNeg = k.toInt.toNat := rfl
    refine Or.inr ⟨hm, f0, J, a1, a2, a3, a4, a5, a6, a7, fun i hi => ?_, fun i h3 h4 => ?_⟩
    · rw [← a8 i hi, h1]
      show (if i = k.toNatClampNeg then w else f i).toInt.toNat = _
      rw [if_neg (by omega)]
      rfl
    · rw [h1]
      show (if i = k.toNatClampNeg then w else f i).toInt = _
      by_cases c : i = k.toNatClampNeg
      · rw [if_pos c]
        exact hw
      · rw [if_neg c]
        exact a9 i h3 (by omega)
theorem z_mXE {n2 : Int} (h : z_mX n q D f g mo j v b) (hn : n2 = (n : Int)) (he : mo = 0 ∨ n2 ≤ b) : z_mT n q D f g mo := by
  rcases h with ⟨h1, ⟨g1, h2⟩ | ⟨g1, h2⟩⟩ | ⟨h1, f0, J, a1, a2, a3, a4, a5, a6, ⟨g1, a7, a10⟩ | ⟨g1, a7⟩, a8, a9⟩
  · exact Or.inr (Or.inl ⟨g1, h1, h2⟩)
  · exact Or.inr (Or.inr ⟨g1, h2⟩)
  · have hu : ∀ i, J ≤ i → i < n → z_nuM f i = f0 J + 1 := fun i h3 h4 => by
      have := a9 i h3 (by omega)
      show (f i).toInt.toNat = _
      omega
    refine Or.inl ⟨g1, h1, ⟨fun i hi => ?_, fun i hi => ?_⟩, fun y hy hl => ?_⟩
    · by_cases c : i < J
      · rw [a8 i c]
        exact a5.1 i hi
      · rw [hu i (by omega) hi]
        exact a4
    · by_cases c : i + 1 < J
      · rw [a8 i (by omega), a8 (i + 1) c]
        exact a5.2 i hi
      · by_cases d : i < J
        · rw [a8 i d, hu (i + 1) (by omega) hi]
          have h3 := a5.2 i hi
          rw [show i + 1 = J by omega] at h3
          omega
        · rw [hu i (by omega) (by omega), hu (i + 1) (by omega) hi]
          exact Nat.le_refl _
    · rcases z_lxS hy.1 hy.2 hl a2 a8 (fun i h3 h4 => hu i h3 h4) a6 with h3 | h3
      · exact z_mdC (fun i hi => by rw [h3 i hi]) a7
      · exact a10 y hy h3
  · exact Or.inr (Or.inr ⟨g1, fun h => a7 (z_mdSo.mp h f0 a5)⟩)
end ZME
/-- the agenda that is asked, as the reference has it -/
def z_YS (M : zH) (a q t m pr en : Nat) (B : Nat → Nat) : Prop := y_AGO M a q t m pr en B ∧ (∀ s, B s < 2 ^ t) ∧ (1 ≤ q ∧ q ≤ 10) ∧ t ≤ 8 ∧ ∃ s, s < 2 ^ q ∧ B s = 0
theorem z_YS.ke {T : List zK} {M M1 M' : zH} {a q t m pr en : Nat} {B : Nat → Nat} {rs : List Nat} (h : z_YS M a q t m pr en B) (hW : z_W M' T) (ke : z_ke T rs M M1) (hr : (z_agr.all fun x => !rs.elem x) = true) : z_YS M1 a q t m pr en B := ⟨h.1.ke hW ke hr, h.2⟩
theorem z_YS.L1 {M : zH} {a q t m pr en d : Nat} {B : Nat → Nat} (h : z_YS M a q t m pr en B) : 1 ≤ z_lc (z_dB B t q d) (2 ^ q) := by
  obtain ⟨_, _, _, _, s, h1, h2⟩ := h
  have h3 := z_lc_lt (z_dB B t q d) h1 (z_dB0.mpr ⟨h1, fun i _ _ => by rw [h2, Nat.zero_div]⟩)
  omega
/-- a set breaks none of those that aren't dropped -/
theorem z_dBI {M : zH} {a q t m pr en : Nat} {B : Nat → Nat} {x p3 xo w ix s : Int32} (h : z_YS M a q t m pr en B) (hs : 0 ≤ s.toInt ∧ s.toInt < ((2 ^ q : Nat) : Int)) (hx : z_Ar M 29 ix.toNatClampNeg = x) (hi : ix.toInt = 1024 * (a : Int) + s.toInt) (hp : 0 ≤ p3.toInt) (h1 : xo = p3 ^^^ ((-1) : Int32)) (h2 : w = x &&& xo) : w.toInt = 0 ↔ z_dB B t q p3.toInt.toNat s.toInt.toNat = 0 := by
  obtain ⟨⟨_, _, _, _, _, hB, _⟩, hBt, _⟩ := h
  have hsq : s.toInt.toNat < 2 ^ q := by generalize (2 : Nat) ^ q = P at *; omega
  have e := hB s.toInt.toNat hsq
  rw [show 1024 * a + s.toInt.toNat = ix.toNatClampNeg by show _ = ix.toInt.toNat; omega, hx] at e
  rw [z_subT (by omega) hp h1 h2, show x.toInt.toNat = B s.toInt.toNat by omega, z_dB0]
  constructor
  · intro hp
    refine ⟨hsq, fun i _ hd => ?_⟩
    rcases Nat.mod_two_eq_zero_or_one (B s.toInt.toNat / 2 ^ i) with c | c
    · exact c
    · rw [hp i c] at hd
      cases hd
  · intro ⟨_, hk⟩ i hi2
    by_cases c : i < t
    · rcases Nat.mod_two_eq_zero_or_one (p3.toInt.toNat / 2 ^ i) with d | d
      · rw [hk i c d] at hi2
        cases hi2
      · exact d
    · have h3 : B s.toInt.toNat < 2 ^ i := Nat.lt_of_lt_of_le (hBt _) (Nat.pow_le_pow_right (by decide) (by omega))
      rw [Nat.div_eq_of_lt h3] at hi2
      cases hi2
