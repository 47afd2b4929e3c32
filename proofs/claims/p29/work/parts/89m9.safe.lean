/-! mend: which drops are safe -/
def z_nth (D : Nat → Nat) : Nat → Nat → Nat
  | 0, _ => 0
  | N + 1, k => if D N = 0 ∧ z_lc D N = k then N else z_nth D N k
section ZNTH
variable {D : Nat → Nat} {N : Nat}
theorem z_nthS : ∀ N s, s < N → D s = 0 → z_nth D N (z_lc D s) = s
  | 0, s, h, _ => absurd h (Nat.not_lt_zero s)
  | N + 1, s, h, h0 => by
    show (if D N = 0 ∧ z_lc D N = z_lc D s then N else z_nth D N (z_lc D s)) = s
    by_cases c : s = N
    · subst c
      rw [if_pos ⟨h0, rfl⟩]
    · have h1 := z_lc_lt D (show s < N by omega) h0
      rw [if_neg (fun e => by omega)]
      exact z_nthS N s (by omega) h0
theorem z_nthL {k : Nat} (h : k < z_lc D N) : ∃ s, s < N ∧ D s = 0 ∧ z_lc D s = k ∧ z_nth D N k = s := by
  obtain ⟨s, h1, h2, h3⟩ := z_lc_ex N k h
  exact ⟨s, h1, h2, h3, by rw [← h3]; exact z_nthS N s h1 h2⟩
theorem z_inN {s : Nat} : z_inL (z_lc D N) (z_nth D N) s ↔ s < N ∧ D s = 0 := by
  constructor
  · intro ⟨i, hi, e⟩
    obtain ⟨s2, h1, h2, h3, h4⟩ := z_nthL hi
    rw [← e, h4]
    exact ⟨h1, h2⟩
  · intro ⟨h1, h2⟩
    exact ⟨z_lc D s, z_lc_lt D h1 h2, z_nthS N s h1 h2⟩
theorem z_nthF {S : Nat → Int32} (h : z_LS D N S) {k : Nat} (hk : k < z_lc D N) : (S k).toInt = ((z_nth D N k : Nat) : Int) := by
  obtain ⟨s, h1, h2, h3, h4⟩ := z_nthL hk
  rw [h4, ← h3]
  exact h s h1 h2
theorem z_nthB {k : Nat} (hk : k < z_lc D N) : z_nth D N k < N := by
  obtain ⟨s, h1, h2, h3, h4⟩ := z_nthL hk
  rw [h4]
  exact h1
end ZNTH
def z_sfe (B : Nat → Nat) (t q n d : Nat) : Prop := z_lc (z_dB B t q d) (2 ^ q) ≤ 12 ∧ z_mdR n q (z_lc (z_dB B t q d) (2 ^ q)) (z_nth (z_dB B t q d) (2 ^ q))
theorem z_tbI {x : Int32} (h : 0 ≤ x.toInt) (k : Nat) : x.toBitVec.getLsbD k = x.toInt.toNat.testBit k := by
  have h1 := z_nn h
  show x.toBitVec.toNat.testBit k = _
  rw [show x.toInt.toNat = x.toBitVec.toNat by omega]
theorem z_mjT {a b c : Int32} (ha : 0 ≤ a.toInt) (hb : 0 ≤ b.toInt) (hc : 0 ≤ c.toInt) : (z_mjI a b c).toInt.toNat = z_mj a.toInt.toNat b.toInt.toNat c.toInt.toNat := by
  have h1 := z_nn ha
  have h2 := z_nn hb
  have h3 := z_nn hc
  have e : (z_mjI a b c).toBitVec.toNat = z_mj a.toBitVec.toNat b.toBitVec.toNat c.toBitVec.toNat := by
    unfold z_mjI z_mj
    rw [z_n32or, z_n32and, z_n32and, z_n32or]
  have l := z_mj_lt (q := 31) (a := a.toBitVec.toNat) (b := b.toBitVec.toNat) (c := c.toBitVec.toNat) (by omega) (by omega) (by omega)
  have e2 : (z_mjI a b c).toInt = ((z_mjI a b c).toBitVec.toNat : Int) := BitVec.toInt_eq_toNat_of_lt (by rw [e]; omega)
  rw [show a.toInt.toNat = a.toBitVec.toNat by omega, show b.toInt.toNat = b.toBitVec.toNat by omega, show c.toInt.toNat = c.toBitVec.toNat by omega, ← e]
  omega
theorem z_eqB {x y : Int32} : x = y ↔ ∀ b, b < 32 → x.toBitVec.getLsbD b = y.toBitVec.getLsbD b := ⟨fun h _ _ => by rw [h], fun h => Int32.toBitVec_inj.mp (BitVec.eq_of_getLsbD_eq h)⟩
theorem z_w3b (a b c d : Int32) (i : Nat) : (z_yW3 a b c d).toBitVec.getLsbD i = z_y3 (a.toBitVec.getLsbD i) (b.toBitVec.getLsbD i) (c.toBitVec.getLsbD i) (d.toBitVec.getLsbD i) := by
  unfold z_yW3 z_y3
  simp only [Int32.toBitVec_or, Int32.toBitVec_and, BitVec.getLsbD_or, BitVec.getLsbD_and]
theorem z_w2b (a b c d : Int32) (i : Nat) : (z_yW2 a b c d).toBitVec.getLsbD i = z_y2 (a.toBitVec.getLsbD i) (b.toBitVec.getLsbD i) (c.toBitVec.getLsbD i) (d.toBitVec.getLsbD i) := by
  unfold z_yW2 z_y2
  simp only [Int32.toBitVec_or, Int32.toBitVec_and, BitVec.getLsbD_or, BitVec.getLsbD_and]
theorem z_wAb (s y3 y2 A : Int32) (i : Nat) (hi : i < 32) : (s &&& (y3 ||| (A &&& (y2 ^^^ ((-1) : Int32))))).toBitVec.getLsbD i = (s.toBitVec.getLsbD i && (y3.toBitVec.getLsbD i || (A.toBitVec.getLsbD i && !y2.toBitVec.getLsbD i))) := by
  have hm : ((-1 : Int32)).toBitVec = BitVec.allOnes 32 := by decide
  rw [Int32.toBitVec_and, BitVec.getLsbD_and, Int32.toBitVec_or, BitVec.getLsbD_or, Int32.toBitVec_and, BitVec.getLsbD_and, Int32.toBitVec_xor, BitVec.getLsbD_xor, hm, BitVec.getLsbD_allOnes, decide_eq_true hi, Bool.xor_true]
theorem z_A0 : ∀ q, q < 11 → (Int32.ofNat (2 ^ q - 1)).toInt = ((z_po q : Nat) : Int) - 1 := by decide +kernel
section ZSF
variable {F : Nat → Int32} {L : Nat → Int64} {D : Nat → Nat} {q bl m : Nat} {f : Nat → Nat}
theorem z_thB (hF : ∀ k, k < m → (F k).toInt = ((f k : Nat) : Int)) (hf : ∀ k, k < m → f k < 2 ^ q) (hL : z_lwb D q bl L) (hq : 2 ^ q ≤ 64 * bl) (hin : ∀ s, z_inL m f s ↔ s < 2 ^ q ∧ D s = 0) {i j k : Nat} (hi : i < m) (hj : j < m) (hk : k < m) : z_tP F L i j k ↔ z_inL m f (z_mj (f i) (f j) (f k)) := by
  have n : ∀ k, k < m → 0 ≤ (F k).toInt ∧ (F k).toInt.toNat = f k := fun k hk => by
    have := hF k hk
    omega
  have e := z_mjT (n i hi).1 (n j hj).1 (n k hk).1
  rw [(n i hi).2, (n j hj).2, (n k hk).2] at e
  unfold z_tP
  rw [e, hin]
  exact hL _ (Nat.lt_of_lt_of_le (z_mj_lt (hf i hi) (hf j hj) (hf k hk)) hq)
theorem z_thC {x : Int} (hF : ∀ k, k < m → (F k).toInt = ((f k : Nat) : Int)) (hf : ∀ k, k < m → f k < 2 ^ q) (hL : z_lwb D q bl L) (hq : 2 ^ q ≤ 64 * bl) (hin : ∀ s, z_inL m f s ↔ s < 2 ^ q ∧ D s = 0) (h : z_thQ F L m x) : (x = 1 ∧ z_thr m f) ∨ (x = 0 ∧ ¬ z_thr m f) := by
  rcases h with ⟨h1, h2⟩ | ⟨h1, i, j, k, a, b, c, h2⟩
  · exact Or.inl ⟨h1, fun i j k a b c => (z_thB hF hf hL hq hin (by omega) (by omega) c).mp (h2 i j k a b c)⟩
  · exact Or.inr ⟨h1, fun h => h2 ((z_thB hF hf hL hq hin (by omega) (by omega) c).mpr (h i j k a b c))⟩
theorem z_foB (q10 : q ≤ 10) (hF : ∀ k, k < m → (F k).toInt = ((f k : Nat) : Int)) (hf : ∀ k, k < m → f k < 2 ^ q) {i j k l : Nat} (hi : i < m) (hj : j < m) (hk : k < m) (hl : l < m) : z_fP F q m i j k l ↔ ∃ s, z_inL m f s ∧ ∀ b, b < q → (s.testBit b && (z_y3 ((f i).testBit b) ((f j).testBit b) ((f k).testBit b) ((f l).testBit b) || !z_y2 ((f i).testBit b) ((f j).testBit b) ((f k).testBit b) ((f l).testBit b))) = z_y3 ((f i).testBit b) ((f j).testBit b) ((f k).testBit b) ((f l).testBit b) := by
  have bit : ∀ k, k < m → ∀ b, (F k).toBitVec.getLsbD b = (f k).testBit b := fun k hk b => by
    have h := hF k hk
    rw [z_tbI (by omega) b, show (F k).toInt.toNat = f k by omega]
  have key : ∀ A : Int32, A.toInt = ((z_po q : Nat) : Int) - 1 → ∀ t, t < m → (F t &&& (z_yW3 (F i) (F j) (F k) (F l) ||| (A &&& (z_yW2 (F i) (F j) (F k) (F l) ^^^ ((-1) : Int32)))) = z_yW3 (F i) (F j) (F k) (F l) ↔ ∀ b, b < q → ((f t).testBit b && (z_y3 ((f i).testBit b) ((f j).testBit b) ((f k).testBit b) ((f l).testBit b) || !z_y2 ((f i).testBit b) ((f j).testBit b) ((f k).testBit b) ((f l).testBit b))) = z_y3 ((f i).testBit b) ((f j).testBit b) ((f k).testBit b) ((f l).testBit b)) := fun A hA t ht => by
    have p0 : 1 ≤ z_po q := Nat.two_pow_pos q
    have hAb : ∀ b, A.toBitVec.getLsbD b = decide (b < q) := fun b => by
      rw [z_tbI (by omega) b, show A.toInt.toNat = 2 ^ q - 1 by unfold z_po at hA; omega]
      exact Nat.testBit_two_pow_sub_one q b
    rw [z_eqB]
    constructor
    · intro h b hb
      have h1 := h b (by omega)
      rw [z_wAb _ _ _ _ b (by omega), z_w3b, z_w2b, hAb, decide_eq_true hb, Bool.true_and, bit t ht, bit i hi, bit j hj, bit k hk, bit l hl] at h1
      exact h1
    · intro h b hb
      rw [z_wAb _ _ _ _ b hb, z_w3b, z_w2b, hAb, bit t ht, bit i hi, bit j hj, bit k hk, bit l hl]
      by_cases c : b < q
      · rw [decide_eq_true c, Bool.true_and]
        exact h b c
      · rw [z_tbq (hf t ht) (by omega), z_tbq (hf i hi) (by omega), z_tbq (hf j hj) (by omega), z_tbq (hf k hk) (by omega), z_tbq (hf l hl) (by omega)]
        rfl
  constructor
  · intro h
    obtain ⟨t, ht, e⟩ := h _ (z_A0 q (by omega))
    exact ⟨f t, ⟨t, ht, rfl⟩, (key _ (z_A0 q (by omega)) t ht).mp e⟩
  · intro ⟨s, ⟨t, ht, e⟩, hb⟩ A hA
    rw [← e] at hb
    exact ⟨t, ht, (key A hA t ht).mpr hb⟩
theorem z_foC {x : Int} (q10 : q ≤ 10) (hF : ∀ k, k < m → (F k).toInt = ((f k : Nat) : Int)) (hf : ∀ k, k < m → f k < 2 ^ q) (h : z_foQ F q m x) : (x = 1 ∧ z_fou q m f) ∨ (x = 0 ∧ ¬ z_fou q m f) := by
  rcases h with ⟨h1, h2⟩ | ⟨h1, i, j, k, l, a, b, c, d, h2⟩
  · exact Or.inl ⟨h1, fun i j k l a b c d => (z_foB q10 hF hf (by omega) (by omega) (by omega) d).mp (h2 i j k l a b c d)⟩
  · exact Or.inr ⟨h1, fun h => h2 ((z_foB q10 hF hf (by omega) (by omega) (by omega) d).mpr (h i j k l a b c d))⟩
end ZSF
section ZSG
variable {B : Nat → Nat} {t q n d : Nat} {x mn : Int} {F : Nat → Int32} {L : Nat → Int64}
theorem z_sf12 (hm : mn = ((z_lc (z_dB B t q d) (2 ^ q) : Nat) : Int)) (h : 12 < mn) (hx : x = 0) : (x = 1 ∧ z_sfe B t q n d) ∨ (x = 0 ∧ ¬ z_sfe B t q n d) := Or.inr ⟨hx, fun h2 => by have := h2.1; omega⟩
theorem z_sf2 (hm : mn = ((z_lc (z_dB B t q d) (2 ^ q) : Nat) : Int)) (h : mn ≤ 12) (n1 : 1 ≤ n) (n3 : n < 3) (hx : x = 1) : (x = 1 ∧ z_sfe B t q n d) ∨ (x = 0 ∧ ¬ z_sfe B t q n d) := Or.inl ⟨hx, by omega, (z_mdRC n1 (by omega) fun _ hi => z_nthB hi).mpr (Or.inl n3)⟩
theorem z_sf4 (hm : mn = ((z_lc (z_dB B t q d) (2 ^ q) : Nat) : Int)) (h : mn ≤ 12) (q10 : q ≤ 10) (n4 : n = 4) (hS : z_LS (z_dB B t q d) (2 ^ q) F) (hx : z_foQ F q mn.toNat x) : (x = 1 ∧ z_sfe B t q n d) ∨ (x = 0 ∧ ¬ z_sfe B t q n d) := by
  rw [show mn.toNat = z_lc (z_dB B t q d) (2 ^ q) by omega] at hx
  have hc := z_mdRC (n := n) (q := q) (m := z_lc (z_dB B t q d) (2 ^ q)) (f := z_nth (z_dB B t q d) (2 ^ q)) (by omega) (by omega) fun _ hi => z_nthB hi
  rcases z_foC q10 (fun _ hk => z_nthF hS hk) (fun _ hk => z_nthB hk) hx with ⟨h1, h2⟩ | ⟨h1, h2⟩
  · exact Or.inl ⟨h1, by omega, hc.mpr (Or.inr (Or.inl ⟨n4, h2⟩))⟩
  · refine Or.inr ⟨h1, fun h3 => ?_⟩
    rcases hc.mp h3.2 with h4 | ⟨_, h4⟩ | ⟨_, h4, _⟩
    · omega
    · exact h2 h4
    · exact h4 n4
theorem z_sf3 (hm : mn = ((z_lc (z_dB B t q d) (2 ^ q) : Nat) : Int)) (h : mn ≤ 12) (n3 : 3 ≤ n) (n5 : n ≤ 5) (n4 : n ≠ 4) (hS : z_LS (z_dB B t q d) (2 ^ q) F) (hL : z_lwb (z_dB B t q d) q (z_bl q) L) (hx : z_thQ F L mn.toNat x) : (x = 1 ∧ z_sfe B t q n d) ∨ (x = 0 ∧ ¬ z_sfe B t q n d) := by
  rw [show mn.toNat = z_lc (z_dB B t q d) (2 ^ q) by omega] at hx
  have hc := z_mdRC (n := n) (q := q) (m := z_lc (z_dB B t q d) (2 ^ q)) (f := z_nth (z_dB B t q d) (2 ^ q)) (by omega) (by omega) fun _ hi => z_nthB hi
  rcases z_thC (fun _ hk => z_nthF hS hk) (fun _ hk => z_nthB hk) hL z_blq2 (fun s => z_inN) hx with ⟨h1, h2⟩ | ⟨h1, h2⟩
  · exact Or.inl ⟨h1, by omega, hc.mpr (Or.inr (Or.inr ⟨n3, n4, h2⟩))⟩
  · refine Or.inr ⟨h1, fun h3 => ?_⟩
    rcases hc.mp h3.2 with h4 | ⟨h4, _⟩ | ⟨_, _, h4⟩
    · omega
    · exact n4 h4
    · exact h2 h4
end ZSG
