/-! nearest: leanings, the greatest, how many -/
def z_sbL (f : Nat → Int32) (s : Nat) : Nat → Int32
  | 0 => 0
  | n + 1 => z_sbL f s n + (if s / 2 ^ n % 2 = 1 then f n else 0)
section ZSB
variable {f : Nat → Int32} {s s2 : Nat}
theorem z_sbC : ∀ n, (∀ j, j < n → (s / 2 ^ j % 2 = 1 ↔ s2 / 2 ^ j % 2 = 1)) → z_sbL f s n = z_sbL f s2 n
  | 0, _ => rfl
  | n + 1, h => by
    show z_sbL f s n + (if s / 2 ^ n % 2 = 1 then f n else 0) = z_sbL f s2 n + (if s2 / 2 ^ n % 2 = 1 then f n else 0)
    rw [z_sbC n fun j hj => h j (by omega)]
    by_cases c : s / 2 ^ n % 2 = 1
    · rw [if_pos c, if_pos ((h n (by omega)).mp c)]
    · rw [if_neg c, if_neg (fun a => c ((h n (by omega)).mpr a))]
theorem z_sbU {k : Nat} (h1 : s / 2 ^ k % 2 = 1) (h2 : ¬ s2 / 2 ^ k % 2 = 1) : ∀ n, k < n → (∀ j, j < n → j ≠ k → (s / 2 ^ j % 2 = 1 ↔ s2 / 2 ^ j % 2 = 1)) → z_sbL f s n = z_sbL f s2 n + f k
  | 0, hk, _ => absurd hk (Nat.not_lt_zero k)
  | n + 1, hk, h => by
    show z_sbL f s n + (if s / 2 ^ n % 2 = 1 then f n else 0) = (z_sbL f s2 n + (if s2 / 2 ^ n % 2 = 1 then f n else 0)) + f k
    by_cases c : n = k
    · subst c
      rw [if_pos h1, if_neg h2, Int32.add_zero, z_sbC n fun j hj => h j (by omega) (by omega)]
    · rw [z_sbU h1 h2 n (by omega) fun j hj => h j (by omega)]
      have e : (if s / 2 ^ n % 2 = 1 then f n else 0) = (if s2 / 2 ^ n % 2 = 1 then f n else 0) := by
        by_cases d : s / 2 ^ n % 2 = 1
        · rw [if_pos d, if_pos ((h n (by omega) c).mp d)]
        · rw [if_neg d, if_neg (fun a => d ((h n (by omega) c).mpr a))]
      rw [e]
      exact z_rg2 _ _ _
theorem z_sb0 : ∀ n, z_sbL f 0 n = 0
  | 0 => rfl
  | n + 1 => by
    show z_sbL f 0 n + (if 0 / 2 ^ n % 2 = 1 then f n else 0) = 0
    rw [Nat.zero_div, if_neg (by decide), Int32.add_zero, z_sb0 n]
theorem z_sb5 : ∀ n, z_sbL f s (5 + n) = z_sbL f s 5 + z_sbL (fun k => f (5 + k)) (s / 32) n
  | 0 => (Int32.add_zero _).symm
  | n + 1 => by
    show z_sbL f s (5 + n) + (if s / 2 ^ (5 + n) % 2 = 1 then f (5 + n) else 0) = z_sbL f s 5 + (z_sbL (fun k => f (5 + k)) (s / 32) n + (if s / 32 / 2 ^ n % 2 = 1 then f (5 + n) else 0))
    rw [z_sb5 n, show s / 2 ^ (5 + n) = s / 32 / 2 ^ n by rw [Nat.pow_add, ← Nat.div_div_eq_div_mul], Int32.add_assoc]
theorem z_md32 (s : Nat) : ∀ j, j < 5 → (s % 32 / 2 ^ j % 2 = 1 ↔ s / 2 ^ j % 2 = 1) := fun j hj => by
  rcases j with _ | _ | _ | _ | _ | j
  · omega
  · omega
  · omega
  · omega
  · omega
  · omega
end ZSB
/-- Integer.numberOfTrailingZeros, told -/
theorem z_ntx : ∀ x, x < 32 → ∀ k, k < 5 → ∀ m, m < 32 → x = 2 ^ (k + 1) * m + 2 ^ k → x % 2 ^ k = 0 ∧ x / 2 ^ k % 2 = 1 := by decide +kernel
theorem zX71 {d : Nat} {x : Int32} {M : zH} {K : Option Value → zH → Prop} (kk : ∀ r : Int32, 0 ≤ r.toInt → r.toInt ≤ 32 → (1 ≤ x.toInt → x.toInt ≤ 31 → r.toInt ≤ 4) → (1 ≤ x.toInt → x.toInt ≤ 31 → x.toInt.toNat % 2 ^ r.toInt.toNat = 0 ∧ x.toInt.toNat / 2 ^ r.toInt.toNat % 2 = 1) → K (some (.int r)) M) : z_ev d 71 0 [some (.int x), none] [] M K := by
  by_cases h0 : x.toInt = 0
  · obtain rfl := z_sub (k := 0) h0 rfl
    have h := z_ntz0
    split at h
    · rename_i r hr
      have h2 := of_decide_eq_true h
      exact z_prx _ _ _ _ _ hr (kk r (by omega) (by omega) (fun z => absurd z (by decide)) (fun z => absurd z (by decide)))
    · cases h
  · have hx := x.toBitVec.isLt
    have hz : x.toBitVec.toNat ≠ 0 := fun z => h0 (by
      have h1 : x.toInt = x.toBitVec.toInt := rfl
      rw [h1, BitVec.toInt_eq_toNat_cond, z]; rfl)
    obtain ⟨k, m, hk, e⟩ := z_low1 32 _ hx (by omega)
    refine z_nt7 ?_
    rw [z_ntb hk e]
    have h := z_ntd k hk
    unfold z_ntc at h
    split at h
    · rename_i r hr
      have h2 := of_decide_eq_true h
      have k5 : 1 ≤ x.toInt → x.toInt ≤ 31 → k < 5 ∧ m < 32 ∧ x.toInt.toNat = 2 ^ (k + 1) * m + 2 ^ k := fun l u => by
        have e3 := (z_nn (x := x) (by omega)).1
        have e4 : 2 ^ k ≤ 31 := by
          have : 0 ≤ 2 ^ (k + 1) * m := Nat.zero_le _
          omega
        have e5 : k < 5 := by
          by_cases h5 : k < 5
          · exact h5
          · have : 2 ^ 5 ≤ 2 ^ k := Nat.pow_le_pow_right (by decide) (by omega)
            omega
        have e7 : 0 < 2 ^ k := Nat.two_pow_pos k
        have e6 : m ≤ 2 ^ (k + 1) * m := Nat.le_mul_of_pos_left m (Nat.two_pow_pos _)
        exact ⟨e5, by omega, by omega⟩
      refine z_prx _ _ _ _ _ hr (kk r (by omega) (by omega) (fun l u => by have := (k5 l u).1; omega) (fun l u => ?_))
      obtain ⟨g1, g2, g3⟩ := k5 l u
      rw [show r.toInt.toNat = k by omega]
      exact z_ntx _ (by omega) k g1 m g2 g3
    · cases h
theorem z_and31 {r x : Int32} (hx : x = r &&& 31) (h : 0 ≤ r.toInt) : x.toInt = r.toInt % 32 := by
  have h1 := z_nn h
  have h0 : (r &&& 31).toBitVec.toNat = r.toBitVec.toNat % 32 := by
    rw [Int32.toBitVec_and, BitVec.toNat_and]
    exact Nat.and_two_pow_sub_one_eq_mod r.toBitVec.toNat 5
  have h2 : (r &&& 31).toInt = ((r &&& 31).toBitVec.toNat : Int) := by
    show (r &&& 31).toBitVec.toInt = _
    exact BitVec.toInt_eq_toNat_of_lt (by rw [h0]; omega)
  rw [hx, h2, h0]
  omega
theorem z_pw5 : ∀ q, q < 11 → ∀ s, s < 2 ^ q → s % 32 < 2 ^ (min q 5) ∧ s / 32 < 2 ^ (q - 5) := by decide +kernel
def z_lw (f low : Nat → Int32) (i : Int) : Prop := ∀ j : Nat, (j : Int) < i → low j = z_sbL f j 5
def z_lo5 (f low : Nat → Int32) (c : Nat) : Prop := ∀ j : Nat, j < 2 ^ c → low j = z_sbL f j 5
def z_low (M0 M : zH) (b q : Nat) : Prop := z_lo5 (z_Ar M0 (b + 4)) (z_Ar M (b + 5)) (min q 5) ∧ z_lo5 (fun k => z_Ar M0 (b + 4) (5 + k)) (z_Ar M (b + 6)) (q - 5)
theorem z_lw0 {f low : Nat → Int32} {i : Int} (h : low 0 = 0) (hi : i = 1) : z_lw f low i := fun j hj => by
  obtain rfl : j = 0 := by omega
  rw [h, z_sb0]
theorem z_nta (i : Nat) (_ : i < 32) (i1 : 1 ≤ i) (r : Nat) (_ : r < 5) (m0 : i % 2 ^ r = 0) (m1 : i / 2 ^ r % 2 = 1) : (i &&& (i - 1)) < i ∧ ¬ (i &&& (i - 1)) / 2 ^ r % 2 = 1 ∧ ∀ j, j < 5 → j ≠ r → (i / 2 ^ j % 2 = 1 ↔ (i &&& (i - 1)) / 2 ^ j % 2 = 1) := by
  have key : ∀ j, (i &&& (i - 1)) / 2 ^ j % 2 = 1 ↔ (i / 2 ^ j % 2 = 1 ∧ j ≠ r) := fun j => by
    rw [← z_lowN m0 m1 j]
    have h := Nat.testBit_and i (i - 1) j
    rw [Nat.testBit_eq_decide_div_mod_eq, Nat.testBit_eq_decide_div_mod_eq, Nat.testBit_eq_decide_div_mod_eq] at h
    constructor
    · intro a
      have h2 : (decide (i / 2 ^ j % 2 = 1) && decide ((i - 1) / 2 ^ j % 2 = 1)) = true := by
        rw [← h]
        exact decide_eq_true a
      rw [Bool.and_eq_true] at h2
      exact ⟨of_decide_eq_true h2.1, of_decide_eq_true h2.2⟩
    · intro ⟨a, b⟩
      have h2 : decide ((i &&& (i - 1)) / 2 ^ j % 2 = 1) = true := by
        rw [h, Bool.and_eq_true]
        exact ⟨decide_eq_true a, decide_eq_true b⟩
      exact of_decide_eq_true h2
  refine ⟨?_, fun a => ((key r).mp a).2 rfl, fun j _ hj => ⟨fun a => (key j).mpr ⟨a, hj⟩, fun a => ((key j).mp a).1⟩⟩
  have := @Nat.and_le_right i (i - 1)
  omega
theorem z_lwS {f low low1 : Nat → Int32} {i i2 su an lo le v r : Int32} (hI : z_lw f low i.toInt) (i1 : 1 ≤ i.toInt) (i31 : i.toInt ≤ 31) (hs : su.toInt = i.toInt - 1) (hl : low an.toNatClampNeg = lo) (ha : an = i &&& su) (hv : v = lo + le) (hu : low1 = upd low i.toNatClampNeg v) (hle : f r.toNatClampNeg = le) (hn : 1 ≤ i.toInt → i.toInt ≤ 31 → i.toInt.toNat % 2 ^ r.toInt.toNat = 0 ∧ i.toInt.toNat / 2 ^ r.toInt.toNat % 2 = 1) (hr : 0 ≤ r.toInt ∧ r.toInt ≤ 4) (hi : i2.toInt = i.toInt + 1) : z_lw f low1 i2.toInt := fun j hj => by
  rw [hu]
  show (if j = i.toInt.toNat then v else low j) = _
  by_cases c : j = i.toInt.toNat
  · rw [if_pos c]
    obtain ⟨n1, n2⟩ := hn i1 i31
    have h1 := z_n32a (by omega) (by omega) ha
    have h2 : an.toInt.toNat = i.toInt.toNat &&& (i.toInt.toNat - 1) := by rw [h1.1, show su.toInt.toNat = i.toInt.toNat - 1 by omega]
    obtain ⟨g1, g2, g3⟩ := z_nta i.toInt.toNat (by omega) (by omega) r.toInt.toNat (by omega) n1 n2
    rw [← h2] at g1 g2 g3
    have h3 := hI an.toInt.toNat (by omega)
    rw [hv, ← hl, ← hle, c, z_sbU (k := r.toInt.toNat) n2 g2 5 (by omega) g3]
    show low an.toInt.toNat + f r.toInt.toNat = _
    rw [h3]
  · rw [if_neg c]
    exact hI j (by omega)
theorem z_lwE {f low : Nat → Int32} {i c x : Int32} {n : Nat} (hI : z_lw f low i.toInt) (hc : c = (1 : Int32) <<< (x &&& 31)) (hx : x.toInt = (n : Int)) (h5 : x.toInt ≤ 10) (hi : c.toInt ≤ i.toInt) : z_lo5 f low n := fun j hj => by
  have h := z_2q1 (by omega) h5 hc
  rw [show x.toInt.toNat = n by omega] at h
  exact hI j (by omega)
theorem z_LSlt {T : List zK} {M : zH} {N q t m pr en sa k : Nat} {B : Nat → Nat} (h : z_AGO T M N q t m pr en B) (hsa : z_F M N 5 = some (.ref sa)) (hk : k < m) : 0 ≤ (z_Ar M sa k).toInt ∧ (z_Ar M sa k).toInt < ((2 ^ q : Nat) : Int) := by
  obtain ⟨-, -, hm, -, -, -, ⟨sa2, e5, -, f5⟩, -⟩ := h
  obtain rfl : sa = sa2 := z_rfe hsa e5
  obtain ⟨s, s1, s2, s3⟩ := z_lc_ex (B := B) (2 ^ q) k (by omega)
  have := f5 s s1 s2
  rw [s3] at this
  omega
theorem z_lnOf {M0 M : zH} {b q sa k : Nat} {se an1 sh an2 lo hi l : Int32} (hl : z_low M0 M b q) (hs : z_Ar M0 sa k = se) (hb : 0 ≤ (z_Ar M0 sa k).toInt ∧ (z_Ar M0 sa k).toInt < ((2 ^ q : Nat) : Int)) (q10 : q ≤ 10) (a1 : an1 = se &&& 31) (a2 : sh.toInt = se.toInt / 32) (a3 : an2 = sh &&& 31) (e1 : z_Ar M (b + 5) an1.toNatClampNeg = lo) (e2 : z_Ar M (b + 6) an2.toNatClampNeg = hi) (e3 : l = lo + hi) : (z_sbL (z_Ar M0 (b + 4)) (z_Ar M0 sa k).toInt.toNat 10).toInt = l.toInt := by
  have hP : 2 ^ q ≤ 1024 := Nat.pow_le_pow_right (n := 2) (by decide) q10
  rw [hs] at hb ⊢
  have m1 := z_and31 a1 hb.1
  have m2 := z_and31 a3 (by omega)
  have c1 : an1.toInt.toNat < 2 ^ (min q 5) ∧ an2.toInt.toNat < 2 ^ (q - 5) := by
    have e := z_pw5 q (by omega) se.toInt.toNat (by generalize 2 ^ q = P at *; omega)
    exact ⟨by rw [show an1.toInt.toNat = se.toInt.toNat % 32 by omega]; exact e.1, by rw [show an2.toInt.toNat = se.toInt.toNat / 32 by omega]; exact e.2⟩
  have h1 := hl.1 _ c1.1
  have h2 := hl.2 _ c1.2
  have h3 : z_sbL (z_Ar M0 (b + 4)) se.toInt.toNat (5 + 5) = _ := z_sb5 5
  rw [show (10 : Nat) = 5 + 5 from rfl, h3, e3, ← e1, ← e2]
  show _ = (z_Ar M (b + 5) an1.toInt.toNat + z_Ar M (b + 6) an2.toInt.toNat).toInt
  rw [h1, h2, show an1.toInt.toNat = se.toInt.toNat % 32 by omega, show an2.toInt.toNat = se.toInt.toNat / 32 by omega, z_sbC 5 (z_md32 se.toInt.toNat)]
/-- how many of the first are c -/
def z_cq (g : Nat → Int) (c : Int) : Nat → Nat
  | 0 => 0
  | k + 1 => z_cq g c k + (if g k = c then 1 else 0)
def z_mxm (g : Nat → Int) (m : Nat) (l : Int) : Prop := (∃ i, i < m ∧ g i = l) ∧ ∀ i, i < m → g i ≤ l
def z_mnm (g : Nat → Int) (m : Nat) (l : Int) : Prop := (∃ i, i < m ∧ g i = l) ∧ ∀ i, i < m → l ≤ g i
def z_nrR (g : Nat → Int) (S : Nat → Int32) (m : Nat) (p x best : Int) : Prop := (p < 0 ∧ x = ((z_cq g best m : Nat) : Int)) ∨ (0 ≤ p ∧ ((∃ k, k < m ∧ g k = best ∧ ((z_cq g best k : Nat) : Int) = p ∧ x = (S k).toInt) ∨ (x = -1 ∧ ((z_cq g best m : Nat) : Int) ≤ p)))
def z_nrP (g : Nat → Int) (S : Nat → Int32) (m : Nat) (p x : Int) : Prop := ∃ best, z_mxm g m best ∧ z_nrR g S m p x best
def y_nrP (g : Nat → Int) (S : Nat → Int32) (m : Nat) (p x : Int) : Prop := ∃ best, z_mnm g m best ∧ z_nrR g S m p x best
def z_nr1 (g : Nat → Int) (k : Nat) (most many : Int) : Prop := (k = 0 ∧ many = 0) ∨ (z_mxm g k most ∧ many = ((z_cq g most k : Nat) : Int))
section ZNR
variable {g : Nat → Int} {k : Nat} {l l2 mo mn mo2 mn2 c x x2 : Int}
theorem z_cqC {g2 : Nat → Int} {c2 : Int} : ∀ m, (∀ i, i < m → (g i = c ↔ g2 i = c2)) → z_cq g c m = z_cq g2 c2 m
  | 0, _ => rfl
  | m + 1, h => by
    show z_cq g c m + (if g m = c then 1 else 0) = z_cq g2 c2 m + (if g2 m = c2 then 1 else 0)
    rw [z_cqC m fun i hi => h i (by omega)]
    by_cases d : g m = c
    · rw [if_pos d, if_pos ((h m (by omega)).mp d)]
    · rw [if_neg d, if_neg (fun a => d ((h m (by omega)).mpr a))]
theorem z_cqN : ∀ m, (∀ i, i < m → g i ≠ c) → z_cq g c m = 0
  | 0, _ => rfl
  | m + 1, h => by
    show z_cq g c m + (if g m = c then 1 else 0) = 0
    rw [z_cqN m fun i hi => h i (by omega), if_neg (h m (by omega))]
theorem z_cq0 {i0 : Int32} (hi : i0.toInt = 0) (hx : x = 0) : x = ((z_cq g c i0.toInt.toNat : Nat) : Int) := by
  rw [hi, hx]
  rfl
theorem z_cqS (h : x = ((z_cq g c k : Nat) : Int)) (hg : g k = l) (h2 : (l = c ∧ x2 = x + 1) ∨ (l ≠ c ∧ x2 = x)) : x2 = ((z_cq g c (k + 1) : Nat) : Int) := by
  show x2 = ((z_cq g c k + (if g k = c then 1 else 0) : Nat) : Int)
  rcases h2 with ⟨a, b⟩ | ⟨a, b⟩
  · rw [if_pos (hg.trans a)]; omega
  · rw [if_neg (fun e => a (hg.symm.trans e))]; omega
theorem z_nr0 {i0 : Int32} (hi : i0.toInt = 0) (hx : mn = 0) : z_nr1 g i0.toInt.toNat mo mn := Or.inl ⟨by rw [hi]; rfl, hx⟩
theorem z_nrS (h : z_nr1 g k mo mn) (hg : g k = l) (h2 : ((k = 0 ∨ mo < l) ∧ mo2 = l ∧ mn2 = 1) ∨ (k ≠ 0 ∧ l ≤ mo ∧ mo2 = mo ∧ ((l = mo ∧ mn2 = mn + 1) ∨ (l ≠ mo ∧ mn2 = mn)))) : z_nr1 g (k + 1) mo2 mn2 := by
  refine Or.inr ?_
  rcases h2 with ⟨h3, h4, h5⟩ | ⟨h3, h4, h5, h6⟩
  · have hlt : ∀ i, i < k → g i < l := fun i hi => by
      rcases h with ⟨h, _⟩ | ⟨⟨_, h⟩, _⟩
      · omega
      · have := h i hi
        omega
    refine ⟨⟨⟨k, by omega, by omega⟩, fun i hi => ?_⟩, ?_⟩
    · by_cases d : i = k
      · rw [d]; omega
      · have := hlt i (by omega)
        omega
    · show mn2 = ((z_cq g mo2 k + (if g k = mo2 then 1 else 0) : Nat) : Int)
      rw [z_cqN k (fun i hi => by have := hlt i hi; omega), if_pos (by omega)]
      omega
  · rcases h with ⟨h, _⟩ | ⟨⟨⟨i, i1, i2⟩, h⟩, h7⟩
    · exact absurd h h3
    · refine ⟨⟨⟨i, by omega, by omega⟩, fun i hi => ?_⟩, z_cqS (l := l) (x := mn) (by rw [h5]; exact h7) hg (by omega)⟩
      by_cases d : i = k
      · rw [d]; omega
      · have := h i (by omega)
        omega
theorem z_nrE {m : Nat} (h : z_nr1 g k mo mn) (hk : k = m) (hm : 1 ≤ m) : z_mxm g m mo := by
  rcases h with ⟨h, _⟩ | ⟨h, _⟩
  · omega
  · rw [← hk]
    exact h
theorem z_nrC {m : Nat} (h : z_nr1 g k mo mn) (hk : k = m) (hm : 1 ≤ m) : mn = ((z_cq g mo m : Nat) : Int) := by
  rcases h with ⟨h, _⟩ | ⟨_, h⟩
  · omega
  · rw [← hk]
    exact h
/-- both sides find the same -/
theorem z_nrQ {g2 : Nat → Int} {S S2 : Nat → Int32} {m m2 : Nat} {p C : Int} (h1 : z_nrP g S m p x) (h2 : y_nrP g2 S2 m2 p x2) (hm : m = m2) (hg : ∀ i, i < m → g2 i = C - g i) (hS : ∀ i, i < m → S i = S2 i) : x = x2 := by
  subst hm
  obtain ⟨b, ⟨⟨i, i1, i2⟩, hb⟩, h1⟩ := h1
  obtain ⟨b2, ⟨⟨j, j1, j2⟩, hb2⟩, h2⟩ := h2
  have e : b2 = C - b := by
    have a1 := hb j j1
    have a2 := hb2 i i1
    have a3 := hg i i1
    have a4 := hg j j1
    omega
  have hc : ∀ k, k ≤ m → z_cq g2 b2 k = z_cq g b k := fun k hk => z_cqC k fun i hi => by
    have := hg i (by omega)
    omega
  have mono : ∀ c d, z_cq g b c ≤ z_cq g b (c + d) := fun c d => by
    induction d with
    | zero => exact Nat.le_refl _
    | succ d ih => exact Nat.le_trans ih (Nat.le_add_right _ _)
  have lt : ∀ c d, g c = b → c < d → z_cq g b c < z_cq g b d := fun c d h hd => by
    have h3 : z_cq g b (c + 1) = z_cq g b c + 1 := by
      show z_cq g b c + (if g c = b then 1 else 0) = _
      rw [if_pos h]
    have h4 := mono (c + 1) (d - (c + 1))
    rw [show c + 1 + (d - (c + 1)) = d by omega] at h4
    omega
  rcases h1 with ⟨p1, h1⟩ | ⟨p1, h1⟩
  · rcases h2 with ⟨p2, h2⟩ | ⟨p2, _⟩
    · rw [hc m (Nat.le_refl m)] at h2
      omega
    · omega
  · rcases h2 with ⟨p2, _⟩ | ⟨p2, h2⟩
    · omega
    · rcases h1 with ⟨k, k1, k2, k3, k4⟩ | ⟨k4, k3⟩
      · rcases h2 with ⟨n, n1, n2, n3, n4⟩ | ⟨n4, n3⟩
        · rw [hc n (by omega)] at n3
          have e2 : k = n := by
            have a3 := hg n n1
            rcases Nat.lt_trichotomy k n with a | a | a
            · have := lt k n k2 a
              omega
            · exact a
            · have := lt n k (by omega) a
              omega
          rw [k4, n4, e2, hS n n1]
        · rw [hc m (Nat.le_refl m)] at n3
          have := lt k m k2 k1
          omega
      · rcases h2 with ⟨n, n1, n2, n3, n4⟩ | ⟨n4, n3⟩
        · rw [hc n (by omega)] at n3
          have := lt n m (by have := hg n n1; omega) n1
          omega
        · omega
end ZNR
/-- the nearest of those that have told answers -/
def y_hs (y n s : Int32) : Prop := (s &&& y).toInt = y.toInt ∧ (s &&& n).toInt = 0
def z_nofD (F : Int32 → Int) (S : Nat → Int32) (H : Int32 → Prop) (m : Nat) (x : Int) : Prop := (x = -1 ∧ ∀ k, k < m → ¬ H (S k)) ∨ ∃ k, k < m ∧ x = (S k).toInt ∧ 0 ≤ x ∧ H (S k) ∧ (∀ i, i < m → H (S i) → F (S k) ≤ F (S i)) ∧ ∀ i, i < k → H (S i) → F (S k) < F (S i)
section ZNF
variable {F : Int32 → Int} {S : Nat → Int32} {H : Int32 → Prop} {k : Nat} {x : Int} {s b : Int32}
theorem z_nof0 {i0 : Int32} (hi : i0.toInt = 0) (hx : x = -1) : z_nofD F S H i0.toInt.toNat x := Or.inl ⟨hx, fun k hk => by
  rw [hi] at hk
  exact absurd hk (Nat.not_lt_zero k)⟩
theorem z_nofK (h : z_nofD F S H k x) (hs : S k = s) (hH : ¬ H s) : z_nofD F S H (k + 1) x := by
  have hk : ∀ i, i < k + 1 → H (S i) → i < k := fun i hi h1 => by
    by_cases d : i = k
    · rw [d, hs] at h1
      exact absurd h1 hH
    · omega
  rcases h with ⟨h1, h2⟩ | ⟨n, n1, n2, n3, n4, n5, n6⟩
  · exact Or.inl ⟨h1, fun i hi h3 => h2 i (hk i hi h3) h3⟩
  · exact Or.inr ⟨n, by omega, n2, n3, n4, fun i hi h3 => n5 i (hk i hi h3) h3, n6⟩
theorem z_nofT (h : z_nofD F S H k b.toInt) (hs : S k = s) (s0 : 0 ≤ s.toInt) (hH : H s) (hc : b.toInt < 0 ∨ F s < F b) : z_nofD F S H (k + 1) s.toInt := by
  refine Or.inr ⟨k, by omega, by rw [hs], s0, by rw [hs]; exact hH, fun i hi h3 => ?_, fun i hi h3 => ?_⟩
  · by_cases d : i = k
    · rw [d]
      exact Int.le_refl _
    · rcases h with ⟨_, h2⟩ | ⟨n, n1, n2, n3, n4, n5, n6⟩
      · exact absurd h3 (h2 i (by omega))
      · have e : S n = b := Int32.toInt_inj.mp n2.symm
        have := n5 i (by omega) h3
        rw [e] at this
        rw [hs]
        omega
  · rcases h with ⟨_, h2⟩ | ⟨n, n1, n2, n3, n4, n5, n6⟩
    · exact absurd h3 (h2 i hi)
    · have e : S n = b := Int32.toInt_inj.mp n2.symm
      have := n5 i hi h3
      rw [e] at this
      rw [hs]
      omega
theorem z_nofL (h : z_nofD F S H k b.toInt) (hs : S k = s) (b0 : 0 ≤ b.toInt) (hc : F b ≤ F s) : z_nofD F S H (k + 1) b.toInt := by
  rcases h with ⟨h1, _⟩ | ⟨n, n1, n2, n3, n4, n5, n6⟩
  · omega
  · refine Or.inr ⟨n, by omega, n2, n3, n4, fun i hi h3 => ?_, n6⟩
    by_cases d : i = k
    · rw [d, hs, show S n = b from Int32.toInt_inj.mp n2.symm]
      exact hc
    · exact n5 i (by omega) h3
end ZNF
theorem z_sit.ke {T : List zK} {M0 M M1 : zH} {a : Nat} {rs : List Nat} (h : z_sit M0 M a) {M' : zH} (hW : z_W M' T) (ke : z_ke T rs M M1) (hr : (([39, 40, 41, 2230] : List Nat).all fun x => !rs.elem x) = true := by decide) : z_sit M0 M1 a := by
  have nn := z_nin hr
  obtain ⟨h1, h2⟩ := h
  refine ⟨ke.f (hW.k (k := 19) (κ := .inl (12, 0, 0, 0, 0)) rfl (by decide)) (nn _ rfl) h1, fun j hj => ?_⟩
  rw [ke.a (hW.k (k := 39) (κ := z_af 39 9) rfl (by decide)) (nn _ rfl), ke.a (hW.k (k := 40) (κ := z_af 40 9) rfl (by decide)) (nn _ rfl), ke.a (hW.k (k := 41) (κ := z_af 41 9) rfl (by decide)) (nn _ rfl)]
  exact h2 j hj
/-- the least distance, as the reference first finds it -/
theorem z_mnm0 {M0 M M1 : zH} {p w x l : Int32} (h1 : z_sit M0 M p.toNatClampNeg) (e30 : z_Ar M 30 = z_Ar M0 30) (e31 : z_Ar M 31 = z_Ar M0 31) (hw : w = p) (m1 : 1 ≤ (z_Ar M0 31 p.toNatClampNeg).toInt) (hn : z_nofD (fun s => (z_ds (z_Ar M 39) (z_Ar M 40) (z_Ar M 41) s (z_Ar M0 35 p.toNatClampNeg).toInt.toNat).toInt) (fun j => z_Ar M 30 (1024 * w.toNatClampNeg + j)) (y_hs 0 0) (z_Ar M 31 w.toNatClampNeg).toInt.toNat x.toInt) (h2 : z_sit M0 M1 p.toNatClampNeg) (hl : l = z_ds (z_Ar M1 39) (z_Ar M1 40) (z_Ar M1 41) x (z_Ar M0 35 p.toNatClampNeg).toInt.toNat) : z_mnm (fun k => (z_ds (fun j => z_Ar M0 32 (9 * p.toNatClampNeg + j)) (fun j => z_Ar M0 33 (9 * p.toNatClampNeg + j)) (fun j => z_Ar M0 34 (9 * p.toNatClampNeg + j)) (z_Ar M0 30 (1024 * p.toNatClampNeg + k)) (z_Ar M0 35 p.toNatClampNeg).toInt.toNat).toInt) (z_Ar M0 31 p.toNatClampNeg).toInt.toNat l.toInt := by
  rw [hw, e30, e31] at hn
  have hH : ∀ s : Int32, y_hs 0 0 s := fun s => ⟨by rw [Int32.and_zero], by rw [Int32.and_zero]; rfl⟩
  have hF : ∀ s : Int32, z_ds (z_Ar M 39) (z_Ar M 40) (z_Ar M 41) s (z_Ar M0 35 p.toNatClampNeg).toInt.toNat = z_ds (fun j => z_Ar M0 32 (9 * p.toNatClampNeg + j)) (fun j => z_Ar M0 33 (9 * p.toNatClampNeg + j)) (fun j => z_Ar M0 34 (9 * p.toNatClampNeg + j)) s (z_Ar M0 35 p.toNatClampNeg).toInt.toNat := fun s => z_dsit h1 rfl
  rcases hn with ⟨_, hn⟩ | ⟨k, k1, k2, _, _, k5, _⟩
  · exact absurd (hH _) (hn 0 (by omega))
  · have ex : x = z_Ar M0 30 (1024 * p.toNatClampNeg + k) := Int32.toInt_inj.mp k2
    have hl2 := z_dsit h2 hl
    refine ⟨⟨k, k1, by rw [hl2, ex]⟩, fun i hi => ?_⟩
    have h3 := k5 i hi (hH _)
    dsimp only at h3
    rw [hF, hF, ← ex, ← hl2] at h3
    exact h3
