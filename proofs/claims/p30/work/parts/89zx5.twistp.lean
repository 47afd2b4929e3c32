/-! how like an outcome is to a set; the best of several sets -/
def z_lke (o y n : Nat) : Nat → Nat
  | 0 => 0
  | k + 1 => z_lke o y n k + (if (y / 2 ^ k % 2 = 1 ∧ o / 2 ^ k % 2 = 1) ∨ (n / 2 ^ k % 2 = 1 ∧ ¬ o / 2 ^ k % 2 = 1) then 1 else 0)
section ZLKE
variable {a b v o y n q : Nat}
theorem z_lkS (h : ∀ k, k < 10 → (a / 2 ^ k % 2 = 1 ↔ y / 2 ^ k % 2 = 1 ∧ o / 2 ^ k % 2 = 1) ∧ (b / 2 ^ k % 2 = 1 ↔ n / 2 ^ k % 2 = 1 ∧ ¬ o / 2 ^ k % 2 = 1)) : ∀ i, i ≤ 10 → z_cp a i + z_cp b i = z_lke o y n i
  | 0, _ => rfl
  | i + 1, hi => by
    have ih := z_lkS h i (by omega)
    obtain ⟨h1, h2⟩ := h i (by omega)
    have m1 := z_m2c (a / 2 ^ i)
    have m2 := z_m2c (b / 2 ^ i)
    show (z_cp a i + a / 2 ^ i % 2) + (z_cp b i + b / 2 ^ i % 2) = z_lke o y n i + (if (y / 2 ^ i % 2 = 1 ∧ o / 2 ^ i % 2 = 1) ∨ (n / 2 ^ i % 2 = 1 ∧ ¬ o / 2 ^ i % 2 = 1) then 1 else 0)
    by_cases c : o / 2 ^ i % 2 = 1
    · have hb : b / 2 ^ i % 2 = 0 := m2.resolve_right fun e => (h2.mp e).2 c
      by_cases d : y / 2 ^ i % 2 = 1
      · have ha := h1.mpr ⟨d, c⟩
        rw [if_pos (Or.inl ⟨d, c⟩)]
        omega
      · have ha : a / 2 ^ i % 2 = 0 := m1.resolve_right fun e => d (h1.mp e).1
        rw [if_neg fun e => e.elim (fun u => d u.1) fun u => u.2 c]
        omega
    · have ha : a / 2 ^ i % 2 = 0 := m1.resolve_right fun e => c (h1.mp e).2
      by_cases d : n / 2 ^ i % 2 = 1
      · have hb := h2.mpr ⟨d, c⟩
        rw [if_pos (Or.inr ⟨d, c⟩)]
        omega
      · have hb : b / 2 ^ i % 2 = 0 := m2.resolve_right fun e => d (h2.mp e).1
        rw [if_neg fun e => e.elim (fun u => c u.2) fun u => d u.1]
        omega
theorem z_lkV (h : ∀ k, k < 10 → (v / 2 ^ k % 2 = 1 ↔ (y / 2 ^ k % 2 = 1 ∧ o / 2 ^ k % 2 = 1) ∨ (n / 2 ^ k % 2 = 1 ∧ ¬ o / 2 ^ k % 2 = 1))) : ∀ i, i ≤ 10 → z_cp v i = z_lke o y n i
  | 0, _ => rfl
  | i + 1, hi => by
    have ih := z_lkV h i (by omega)
    have h1 := h i (by omega)
    have m1 := z_m2c (v / 2 ^ i)
    show z_cp v i + v / 2 ^ i % 2 = z_lke o y n i + (if (y / 2 ^ i % 2 = 1 ∧ o / 2 ^ i % 2 = 1) ∨ (n / 2 ^ i % 2 = 1 ∧ ¬ o / 2 ^ i % 2 = 1) then 1 else 0)
    by_cases c : (y / 2 ^ i % 2 = 1 ∧ o / 2 ^ i % 2 = 1) ∨ (n / 2 ^ i % 2 = 1 ∧ ¬ o / 2 ^ i % 2 = 1)
    · rw [if_pos c, h1.mpr c, ih]
    · rw [if_neg c, m1.resolve_right fun e => c (h1.mp e), ih]
theorem z_lkl (hy : y < 2 ^ q) (hn : n < 2 ^ q) : ∀ i, z_lke o y n i ≤ i ∧ z_lke o y n i ≤ q
  | 0 => ⟨Nat.le_refl 0, Nat.zero_le q⟩
  | i + 1 => by
    have ih := z_lkl hy hn i
    show z_lke o y n i + (if (y / 2 ^ i % 2 = 1 ∧ o / 2 ^ i % 2 = 1) ∨ (n / 2 ^ i % 2 = 1 ∧ ¬ o / 2 ^ i % 2 = 1) then 1 else 0) ≤ i + 1 ∧ z_lke o y n i + (if (y / 2 ^ i % 2 = 1 ∧ o / 2 ^ i % 2 = 1) ∨ (n / 2 ^ i % 2 = 1 ∧ ¬ o / 2 ^ i % 2 = 1) then 1 else 0) ≤ q
    by_cases c : (y / 2 ^ i % 2 = 1 ∧ o / 2 ^ i % 2 = 1) ∨ (n / 2 ^ i % 2 = 1 ∧ ¬ o / 2 ^ i % 2 = 1)
    · have hq : i < q := c.elim (fun u => z_q2b hy u.1) fun u => z_q2b hn u.1
      rw [if_pos c]
      omega
    · rw [if_neg c]
      omega
end ZLKE
/-- the class's count -/
theorem z_lkC {dv b5 w : Int32} {q o : Nat} (hd : 0 ≤ dv.toInt ∧ dv.toInt < 1048576) (hn : dv.toInt.toNat / 1024 < 2 ^ q) (ho : o < 2 ^ q) (hm : z_w2 (fun k => o / 2 ^ k % 2 = 1) (fun k => ¬ o / 2 ^ k % 2 = 1) q b5.toInt) (hw : w = dv &&& b5) : 0 ≤ w.toInt ∧ z_cp w.toInt.toNat 32 = z_lke o (dv.toInt.toNat % 1024) (dv.toInt.toNat / 1024) 10 := by
  obtain ⟨a1, a2, a3⟩ := z_ib_and hw hd.1 hm.1.1
  refine ⟨a1, ?_⟩
  have hx2 : w.toInt.toNat < 1048576 := by omega
  have hb : ∀ k, k < 10 → (w.toInt.toNat % 1024 / 2 ^ k % 2 = 1 ↔ dv.toInt.toNat % 1024 / 2 ^ k % 2 = 1 ∧ o / 2 ^ k % 2 = 1) ∧ (w.toInt.toNat / 1024 / 2 ^ k % 2 = 1 ↔ dv.toInt.toNat / 1024 / 2 ^ k % 2 = 1 ∧ ¬ o / 2 ^ k % 2 = 1) := fun k hk => by
    have u1 := a3 k
    have u2 := a3 (k + 10)
    have u3 := hm.2 k hk
    unfold z_ib at u1 u2
    rw [u3.1] at u1
    rw [u3.2] at u2
    rw [z_md1024 w.toInt.toNat k hk, z_md1024 dv.toInt.toNat k hk]
    refine ⟨u1.trans ⟨fun ⟨c1, _, c3⟩ => ⟨c1, c3⟩, fun ⟨c1, c3⟩ => ⟨c1, z_q2b ho c3, c3⟩⟩, ?_⟩
    have e1 := z_md10 w.toInt.toNat k
    have e2 := z_md10 dv.toInt.toNat k
    rw [e1]
    refine u2.trans ⟨fun ⟨c1, _, c3⟩ => ⟨by rw [e2]; exact c1, c3⟩, fun ⟨c1, c3⟩ => ⟨by rw [← e2]; exact c1, z_q2b hn c1, c3⟩⟩
  generalize w.toInt.toNat = x at *
  have e : x % 1024 + 1024 * (x / 1024) = x := by omega
  have h1 := z_cp_T (y := x % 1024) (n := x / 1024) (by omega) 22
  rw [e] at h1
  have h2 : z_cp (x / 1024) 22 = z_cp (x / 1024) 10 := z_cp_hi (v := x / 1024) (by omega) 12
  have h3 := z_lkS hb 10 (Nat.le_refl 10)
  have h4 : z_cp x 32 = z_cp x (10 + 22) := rfl
  omega
/-- the reference's count -/
theorem z_lkR {yv nv sv a e b w : Int32} {o : Nat} (hy : 0 ≤ yv.toInt ∧ yv.toInt < 1024) (hn : 0 ≤ nv.toInt ∧ nv.toInt < 1024) (hs : sv.toInt = (o : Int)) (h1 : a = yv &&& sv) (h2 : e = sv ^^^ (-1 : Int32)) (h3 : b = nv &&& e) (h4 : w = a ||| b) : 0 ≤ w.toInt ∧ z_cp w.toInt.toNat 31 = z_lke o yv.toInt.toNat nv.toInt.toNat 10 := by
  obtain ⟨a1, a2, a3⟩ := z_ib_and h1 hy.1 (by omega)
  obtain ⟨b1, b2, b3⟩ := z_ib_no h2 h3 hn.1 (by omega)
  obtain ⟨c1, c2⟩ := z_ib_or h4 a1 b1
  have hw : w.toInt.toNat < 1024 := by
    obtain ⟨u1, u2⟩ := z_nn a1
    obtain ⟨v1, v2⟩ := z_nn b1
    obtain ⟨w1, w2⟩ := z_nn c1
    have e5 : w.toBitVec.toNat = a.toBitVec.toNat ||| b.toBitVec.toNat := by rw [h4, Int32.toBitVec_or, BitVec.toNat_or]
    have h5 : w.toBitVec.toNat < 2 ^ 10 := by rw [e5]; exact Nat.or_lt_two_pow (by omega) (by omega)
    omega
  refine ⟨c1, ?_⟩
  have hb : ∀ k, k < 10 → (w.toInt.toNat / 2 ^ k % 2 = 1 ↔ (yv.toInt.toNat / 2 ^ k % 2 = 1 ∧ o / 2 ^ k % 2 = 1) ∨ (nv.toInt.toNat / 2 ^ k % 2 = 1 ∧ ¬ o / 2 ^ k % 2 = 1)) := fun k _ => by
    have h := c2 k
    rw [a3 k, b3 k] at h
    unfold z_ib at h
    rw [show sv.toInt.toNat = o by omega] at h
    exact h
  have h3 := z_lkV hb 10 (Nat.le_refl 10)
  have h4 : z_cp w.toInt.toNat 31 = z_cp w.toInt.toNat 10 := z_cp_hi (v := w.toInt.toNat) hw 21
  rw [h4, h3]
/-- the search for the best: after i sets -/
def z_bsI (Lk : Nat → Nat → Prop) (S : Nat → Nat) (f0 i mo : Nat) (x : Int) : Prop := (x = -2 ∧ mo = f0 ∧ ∀ k, k < i → ∀ l, Lk (S k) l → l ≤ f0) ∨ ∃ k, k < i ∧ x = (S k : Int) ∧ f0 < mo ∧ Lk (S k) mo ∧ ∀ k2, k2 < i → ∀ l, Lk (S k2) l → l ≤ mo ∧ (k2 < k → l < mo)
section ZBS
variable {Lk : Nat → Nat → Prop} {S S2 : Nat → Nat} {f0 i m mo mo2 l0 q : Nat} {x x2 : Int}
theorem z_bs0 : z_bsI Lk S f0 0 f0 (-2) := Or.inl ⟨rfl, rfl, fun k h => absurd h (Nat.not_lt_zero k)⟩
theorem z_bsge (h : z_bsI Lk S f0 i mo x) : f0 ≤ mo := by
  rcases h with ⟨_, h, _⟩ | ⟨_, _, _, h, _⟩ <;> omega
theorem z_bsN (h : z_bsI Lk S f0 i mo x) (hl : ∀ l, Lk (S i) l → l ≤ mo) : z_bsI Lk S f0 (i + 1) mo x := by
  rcases h with ⟨h1, h2, h3⟩ | ⟨k, h1, h2, h3, h4, h5⟩
  · refine Or.inl ⟨h1, h2, fun k hk l hL => ?_⟩
    by_cases c : k = i
    · rw [c] at hL
      have := hl l hL
      omega
    · exact h3 k (by omega) l hL
  · refine Or.inr ⟨k, by omega, h2, h3, h4, fun k2 hk l hL => ?_⟩
    by_cases c : k2 = i
    · rw [c] at hL
      exact ⟨hl l hL, fun d => by omega⟩
    · exact h5 k2 (by omega) l hL
theorem z_bsB (hU : ∀ s l l2, Lk s l → Lk s l2 → l = l2) (h : z_bsI Lk S f0 i mo x) (hl : Lk (S i) l0) (hg : mo < l0) (hx : x2 = (S i : Int)) : z_bsI Lk S f0 (i + 1) l0 x2 := by
  have hf := z_bsge h
  refine Or.inr ⟨i, Nat.lt_succ_self i, hx, by omega, hl, fun k2 hk l hL => ?_⟩
  by_cases c : k2 = i
  · rw [c] at hL
    rw [hU _ _ _ hL hl]
    exact ⟨Nat.le_refl _, fun d => by omega⟩
  · rcases h with ⟨_, h2, h3⟩ | ⟨k, _, _, _, _, h5⟩
    · have := h3 k2 (by omega) l hL
      exact ⟨by omega, fun _ => by omega⟩
    · have := (h5 k2 (by omega) l hL).1
      exact ⟨by omega, fun _ => by omega⟩
theorem z_bsE (hq : ∀ s l, Lk s l → l ≤ q) (h : z_bsI Lk S f0 i mo x) (hm : q ≤ mo) (hi : i ≤ m) : z_bsI Lk S f0 m mo x := by
  rcases h with ⟨h1, h2, h3⟩ | ⟨k, h1, h2, h3, h4, h5⟩
  · refine Or.inl ⟨h1, h2, fun k _ l hL => ?_⟩
    have := hq _ _ hL
    omega
  · refine Or.inr ⟨k, by omega, h2, h3, h4, fun k2 _ l hL => ?_⟩
    by_cases c : k2 < i
    · exact h5 k2 c l hL
    · have := hq _ _ hL
      exact ⟨by omega, fun d => by omega⟩
theorem z_bsC (h : z_bsI Lk S f0 i mo x) (e : ∀ k, k < i → S k = S2 k) : z_bsI Lk S2 f0 i mo x := by
  rcases h with ⟨h1, h2, h3⟩ | ⟨k, h1, h2, h3, h4, h5⟩
  · exact Or.inl ⟨h1, h2, fun k hk l hL => h3 k hk l (by rw [e k hk]; exact hL)⟩
  · exact Or.inr ⟨k, h1, by rw [← e k h1]; exact h2, h3, by rw [← e k h1]; exact h4, fun k2 hk l hL => h5 k2 hk l (by rw [e k2 hk]; exact hL)⟩
theorem z_bsU (hU : ∀ s l l2, Lk s l → Lk s l2 → l = l2) (h : z_bsI Lk S f0 i mo x) (h2 : z_bsI Lk S f0 i mo2 x2) : x = x2 := by
  rcases h with ⟨a1, a2, a3⟩ | ⟨k, a1, a2, a3, a4, a5⟩
  · rcases h2 with ⟨b1, b2, b3⟩ | ⟨k2, b1, b2, b3, b4, b5⟩
    · exact a1.trans b1.symm
    · have := a3 k2 b1 _ b4
      omega
  · rcases h2 with ⟨b1, b2, b3⟩ | ⟨k2, b1, b2, b3, b4, b5⟩
    · have := b3 k a1 _ a4
      omega
    · have c1 := a5 k2 b1 _ b4
      have c2 := b5 k a1 _ a4
      have c3 : k = k2 := by
        by_cases d : k < k2
        · have := c2.2 d
          omega
        · by_cases d2 : k2 < k
          · have := c1.2 d2
            omega
          · omega
      rw [a2, b2, c3]
end ZBS
/-- how like the outcome is to o, judge j having the set s -/
def z_lkJ (c : Nat) (B : Nat → Nat) (q pr en sh J ch : Nat) (ww yy nn : Nat → Int32) (j o s l : Nat) : Prop := ∃ (Y A : Int32) (y n : Nat), Y.toInt = (s : Int) ∧ A.toInt = ((2 ^ q : Nat) : Int) - 1 ∧ z_oJ c B q pr en sh J ch ww (z_set1 yy j Y) (z_set1 nn j (A &&& (Y ^^^ (-1 : Int32)))) y n ∧ l = z_lke o y n 10
theorem z_lkJU {c q pr en sh J ch j o : Nat} {B : Nat → Nat} {ww yy nn : Nat → Int32} (q1 : 1 ≤ q) : ∀ s l l2, z_lkJ c B q pr en sh J ch ww yy nn j o s l → z_lkJ c B q pr en sh J ch ww yy nn j o s l2 → l = l2 := fun s l l2 ⟨Y, A, y, n, a1, a2, a3, a4⟩ ⟨Y2, A2, y2, n2, b1, b2, b3, b4⟩ => by
  have e1 : Y = Y2 := Int32.toInt_inj.mp (a1.trans b1.symm)
  have e2 : A = A2 := Int32.toInt_inj.mp (a2.trans b2.symm)
  rw [← e1, ← e2] at b3
  obtain ⟨ey, en⟩ := z_oJU a3 b3 q1
  rw [a4, b4, ey, en]
theorem z_lkJq {c q pr en sh J ch j o : Nat} {B : Nat → Nat} {ww yy nn : Nat → Int32} (q1 : 1 ≤ q) : ∀ s l, z_lkJ c B q pr en sh J ch ww yy nn j o s l → l ≤ q := fun s l ⟨Y, A, y, n, _, _, ⟨L, Y2, N2, _, _, a3⟩, a4⟩ => by
  obtain ⟨h1, h2⟩ := z_outL a3 q1
  rw [a4]
  exact (z_lkl h1 h2 10).2
/-- one judge's answers for another's: the outcome speaks of the first J alone -/
theorem z_oJC {c q pr en sh J ch y n : Nat} {B : Nat → Nat} {ww yy nn yy2 nn2 : Nat → Int32} (h : z_oJ c B q pr en sh J ch ww yy nn y n) (e : ∀ j, j < J → yy j = yy2 j ∧ nn j = nn2 j) : z_oJ c B q pr en sh J ch ww yy2 nn2 y n := by
  obtain ⟨L, Y, N, a1, a2, a3⟩ := h
  refine ⟨L, Y, N, fun k hk => ?_, fun j hj => ?_, a3⟩
  · rw [a1 k hk]
    unfold z_LW
    rw [z_vsC (f := yy) (w := ww) (f2 := yy2) (w2 := ww) fun j hj => ⟨(e j hj).1, rfl⟩, z_vsC (f := nn) (w := ww) (f2 := nn2) (w2 := ww) fun j hj => ⟨(e j hj).2, rfl⟩]
  · rw [← (e j hj).1, ← (e j hj).2]
    exact a2 j hj
theorem z_set1s {f : Nat → Int32} {j : Nat} {v : Int32} (h : f j = v) (i : Nat) : f i = z_set1 f j v i := by
  show f i = if i = j then v else f i
  by_cases c : i = j
  · rw [if_pos c, c]
    exact h
  · rw [if_neg c]
/-- the told bench as it is, as a twist to its own set -/
theorem z_lkJo {c q pr en sh J ch j y n : Nat} {B : Nat → Nat} {ww yy nn : Nat → Int32} {A : Int32} (h : z_oJ c B q pr en sh J ch ww yy nn y n) (hy : 0 ≤ (yy j).toInt) (hA : A.toInt = ((2 ^ q : Nat) : Int) - 1) (hn : nn j = A &&& (yy j ^^^ (-1 : Int32))) : z_lkJ c B q pr en sh J ch ww yy nn j (yy j).toInt.toNat (yy j).toInt.toNat (z_lke (yy j).toInt.toNat y n 10) :=
  ⟨yy j, A, y, n, by omega, hA, z_oJC h fun i _ => ⟨z_set1s rfl i, z_set1s hn i⟩, rfl⟩
theorem z_ansNo {q : Nat} {Y A : Int32} (hA : A.toInt = ((2 ^ q : Nat) : Int) - 1) (q10 : q ≤ 10) (hY : 0 ≤ Y.toInt ∧ Y.toInt < ((2 ^ q : Nat) : Int)) : z_ans q Y (A &&& (Y ^^^ (-1 : Int32))) := by
  have hA2 := z_p21 hA q10
  obtain ⟨a1, a2, a3⟩ := z_ib_no (x := Y) (v := A) (z := A &&& (Y ^^^ (-1 : Int32))) rfl rfl hA2.1 hY.1
  refine ⟨hY, ⟨a1, by generalize 2 ^ q = P at *; omega⟩, ?_⟩
  obtain ⟨b1, b2, b3⟩ := z_ib_and (x := Y) (y := A &&& (Y ^^^ (-1 : Int32))) rfl hY.1 a1
  refine z_z32.mpr fun i _ => ?_
  cases h : (Y &&& (A &&& (Y ^^^ (-1 : Int32)))).toBitVec.getLsbD i with
  | false => rfl
  | true =>
    have h2 := (b3 i).mp ((z_bt32 b1 i).mp h)
    exact absurd h2.1 ((a3 i).mp h2.2).2
