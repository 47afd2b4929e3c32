/-! mend: what n judges who hold sets of a list decide, and whether a set of the list has it -/
def z_mj (a b c : Nat) : Nat := (a &&& b) ||| ((a ||| b) &&& c)
def z_mb (a b c : Bool) : Bool := (a && b) || ((a || b) && c)
theorem z_mj_tb (a b c k : Nat) : (z_mj a b c).testBit k = z_mb (a.testBit k) (b.testBit k) (c.testBit k) := by
  unfold z_mj z_mb
  rw [Nat.testBit_or, Nat.testBit_and, Nat.testBit_and, Nat.testBit_or]
def z_bn (b : Bool) : Nat := cond b 1 0
/-- how many of the first n say yes to k -/
def z_ctb (x : Nat → Nat) (k : Nat) : Nat → Nat
  | 0 => 0
  | n + 1 => z_ctb x k n + z_bn ((x n).testBit k)
def z_md (n q : Nat) (x : Nat → Nat) (S : Nat → Prop) : Prop := ∃ s, S s ∧ ∀ k, k < q → (n < 2 * z_ctb x k n → s.testBit k = true) ∧ (2 * z_ctb x k n < n → s.testBit k = false)
theorem z_ctbC {x y : Nat → Nat} {k : Nat} : ∀ n, (∀ i, i < n → x i = y i) → z_ctb x k n = z_ctb y k n
  | 0, _ => rfl
  | n + 1, h => by
    show z_ctb x k n + z_bn ((x n).testBit k) = z_ctb y k n + z_bn ((y n).testBit k)
    rw [z_ctbC n fun i hi => h i (by omega), h n (by omega)]
theorem z_mdC {n q : Nat} {x y : Nat → Nat} {S : Nat → Prop} (h : ∀ i, i < n → x i = y i) (hx : z_md n q x S) : z_md n q y S := by
  obtain ⟨s, hs, hk⟩ := hx
  refine ⟨s, hs, fun k hq => ?_⟩
  rw [← z_ctbC n h]
  exact hk k hq
theorem z_tbq {x q k : Nat} (h : x < 2 ^ q) (hk : q ≤ k) : x.testBit k = false := Nat.testBit_lt_two_pow (Nat.lt_of_lt_of_le h (Nat.pow_le_pow_right (by decide) hk))
theorem z_m3 : ∀ a b c s : Bool, (3 < 2 * (0 + z_bn a + z_bn b + z_bn c) → s = true) → (2 * (0 + z_bn a + z_bn b + z_bn c) < 3 → s = false) → s = z_mb a b c := by decide
theorem z_m3r : ∀ a b c : Bool, (3 < 2 * (0 + z_bn a + z_bn b + z_bn c) → z_mb a b c = true) ∧ (2 * (0 + z_bn a + z_bn b + z_bn c) < 3 → z_mb a b c = false) := by decide
theorem z_m5 : ∀ a b c s : Bool, (5 < 2 * (0 + z_bn a + z_bn a + z_bn b + z_bn b + z_bn c) → s = true) → (2 * (0 + z_bn a + z_bn a + z_bn b + z_bn b + z_bn c) < 5 → s = false) → s = z_mb a b c := by decide
theorem z_m5r : ∀ a b c d e : Bool, (5 < 2 * (0 + z_bn a + z_bn b + z_bn c + z_bn d + z_bn e) → z_mb a (z_mb c d e) (z_mb b c (z_mb b d e)) = true) ∧ (2 * (0 + z_bn a + z_bn b + z_bn c + z_bn d + z_bn e) < 5 → z_mb a (z_mb c d e) (z_mb b c (z_mb b d e)) = false) := by decide
/-- three yes and two yes of four -/
def z_y3 (a b c d : Bool) : Bool := (a && b) && (c || d) || (a || b) && (c && d)
def z_y2 (a b c d : Bool) : Bool := (a && b) || (c && d) || (a || b) && (c || d)
theorem z_m4 : ∀ a b c d s : Bool, (4 < 2 * (0 + z_bn a + z_bn b + z_bn c + z_bn d) → s = true) → (2 * (0 + z_bn a + z_bn b + z_bn c + z_bn d) < 4 → s = false) → (s && (z_y3 a b c d || !z_y2 a b c d)) = z_y3 a b c d := by decide
theorem z_m4r : ∀ a b c d s : Bool, (s && (z_y3 a b c d || !z_y2 a b c d)) = z_y3 a b c d → (4 < 2 * (0 + z_bn a + z_bn b + z_bn c + z_bn d) → s = true) ∧ (2 * (0 + z_bn a + z_bn b + z_bn c + z_bn d) < 4 → s = false) := by decide
theorem z_m4a : ∀ a c d : Bool, ((4 < 2 * (0 + z_bn a + z_bn a + z_bn c + z_bn d) → a = true) ∧ (2 * (0 + z_bn a + z_bn a + z_bn c + z_bn d) < 4 → a = false)) ∧ ((4 < 2 * (0 + z_bn c + z_bn a + z_bn a + z_bn d) → a = true) ∧ (2 * (0 + z_bn c + z_bn a + z_bn a + z_bn d) < 4 → a = false)) ∧ ((4 < 2 * (0 + z_bn c + z_bn d + z_bn a + z_bn a) → a = true) ∧ (2 * (0 + z_bn c + z_bn d + z_bn a + z_bn a) < 4 → a = false)) := by decide
theorem z_m2a : ∀ a b : Bool, (2 < 2 * (0 + z_bn a + z_bn b) → a = true) ∧ (2 * (0 + z_bn a + z_bn b) < 2 → a = false) := by decide
theorem z_m1a : ∀ a : Bool, (1 < 2 * (0 + z_bn a) → a = true) ∧ (2 * (0 + z_bn a) < 1 → a = false) := by decide
theorem z_mbs : ∀ a b c : Bool, z_mb a c b = z_mb a b c ∧ z_mb b a c = z_mb a b c ∧ z_mb a a b = a ∧ z_mb a b b = b ∧ z_mb a b a = a := by decide
theorem z_mjs (a b c : Nat) : z_mj a c b = z_mj a b c ∧ z_mj b a c = z_mj a b c ∧ z_mj a a b = a ∧ z_mj a b b = b ∧ z_mj a b a = a := by
  refine ⟨?_, ?_, ?_, ?_, ?_⟩ <;> (apply Nat.eq_of_testBit_eq; intro k; rw [z_mj_tb])
  · rw [z_mj_tb]
    exact (z_mbs _ _ _).1
  · rw [z_mj_tb]
    exact (z_mbs _ _ _).2.1
  · exact (z_mbs _ _ (c.testBit k)).2.2.1
  · exact (z_mbs _ _ (c.testBit k)).2.2.2.1
  · exact (z_mbs _ _ (c.testBit k)).2.2.2.2
section ZMD
variable {n q m : Nat} {f : Nat → Nat}
/-- the sets of the list -/
def z_inL (m : Nat) (f : Nat → Nat) (s : Nat) : Prop := ∃ i, i < m ∧ f i = s
/-- every bench of n, its sets in the list's order -/
def z_mdR (n q m : Nat) (f : Nat → Nat) : Prop := ∀ x : Nat → Nat, (∀ j, j < n → x j < m) → (∀ j, j + 1 < n → x j ≤ x (j + 1)) → z_md n q (fun j => f (x j)) (z_inL m f)
def z_thr (m : Nat) (f : Nat → Nat) : Prop := ∀ i j k, i < j → j < k → k < m → z_inL m f (z_mj (f i) (f j) (f k))
def z_fou (q m : Nat) (f : Nat → Nat) : Prop := ∀ i j k l, i < j → j < k → k < l → l < m → ∃ s, z_inL m f s ∧ ∀ b, b < q → (s.testBit b && (z_y3 ((f i).testBit b) ((f j).testBit b) ((f k).testBit b) ((f l).testBit b) || !z_y2 ((f i).testBit b) ((f j).testBit b) ((f k).testBit b) ((f l).testBit b))) = z_y3 ((f i).testBit b) ((f j).testBit b) ((f k).testBit b) ((f l).testBit b)
theorem z_odd (hf : ∀ i, i < m → f i < 2 ^ q) {s t : Nat} (hs : z_inL m f s) (ht : t < 2 ^ q) (h : ∀ k, k < q → s.testBit k = t.testBit k) : z_inL m f t := by
  have e : s = t := Nat.eq_of_testBit_eq fun k => by
    by_cases c : k < q
    · exact h k c
    · obtain ⟨i, hi, e⟩ := hs
      rw [← e, z_tbq (hf i hi) (by omega), z_tbq ht (by omega)]
  rw [← e]
  exact hs
theorem z_mj_lt {a b c : Nat} (ha : a < 2 ^ q) (hb : b < 2 ^ q) (hc : c < 2 ^ q) : z_mj a b c < 2 ^ q := Nat.or_lt_two_pow (Nat.lt_of_le_of_lt Nat.and_le_left ha) (Nat.lt_of_le_of_lt Nat.and_le_right hc)
def z_sqI (i j k l o : Nat) : Nat → Nat
  | 0 => i
  | 1 => j
  | 2 => k
  | 3 => l
  | _ => o
theorem z_thrA (h : z_thr m f) {a b c : Nat} (ha : z_inL m f a) (hb : z_inL m f b) (hc : z_inL m f c) : z_inL m f (z_mj a b c) := by
  obtain ⟨i, hi, rfl⟩ := ha
  obtain ⟨j, hj, rfl⟩ := hb
  obtain ⟨k, hk, rfl⟩ := hc
  have s1 : ∀ a b c, z_mj a c b = z_mj a b c := fun a b c => (z_mjs a b c).1
  have s2 : ∀ a b c, z_mj b a c = z_mj a b c := fun a b c => (z_mjs a b c).2.1
  by_cases ij : i = j
  · rw [ij, (z_mjs (f j) (f k) (f k)).2.2.1]
    exact ⟨j, hj, rfl⟩
  by_cases jk : j = k
  · rw [jk, (z_mjs (f i) (f k) (f k)).2.2.2.1]
    exact ⟨k, hk, rfl⟩
  by_cases ik : i = k
  · rw [← ik, (z_mjs (f i) (f j) (f i)).2.2.2.2]
    exact ⟨i, hi, rfl⟩
  rcases Nat.lt_or_gt_of_ne ij with c1 | c1
  · rcases Nat.lt_or_gt_of_ne jk with c2 | c2
    · exact h i j k c1 c2 hk
    · rcases Nat.lt_or_gt_of_ne ik with c3 | c3
      · rw [← s1]
        exact h i k j c3 c2 hj
      · rw [← s1, ← s2]
        exact h k i j c3 c1 hj
  · rcases Nat.lt_or_gt_of_ne jk with c2 | c2
    · rcases Nat.lt_or_gt_of_ne ik with c3 | c3
      · rw [← s2]
        exact h j i k c1 c3 hk
      · rw [← s2, ← s1]
        exact h j k i c2 c3 hi
    · rw [← s2, ← s1, ← s2]
      exact h k j i c2 c1 hi
theorem z_mdRC (n1 : 1 ≤ n) (n5 : n ≤ 5) (hf : ∀ i, i < m → f i < 2 ^ q) : z_mdR n q m f ↔ (n < 3 ∨ (n = 4 ∧ z_fou q m f) ∨ (3 ≤ n ∧ n ≠ 4 ∧ z_thr m f)) := by
  rcases show n = 1 ∨ n = 2 ∨ n = 3 ∨ n = 4 ∨ n = 5 by omega with rfl | rfl | rfl | rfl | rfl
  · refine ⟨fun _ => Or.inl (by decide), fun _ x hx _ => ⟨f (x 0), ⟨x 0, hx 0 (by decide), rfl⟩, fun k _ => z_m1a _⟩⟩
  · refine ⟨fun _ => Or.inl (by decide), fun _ x hx _ => ⟨f (x 0), ⟨x 0, hx 0 (by decide), rfl⟩, fun k _ => z_m2a _ ((f (x 1)).testBit k)⟩⟩
  · constructor
    · intro h
      refine Or.inr (Or.inr ⟨by decide, by decide, fun i j k c1 c2 c3 => ?_⟩)
      obtain ⟨s, hs, hk⟩ := h (z_sqI i j k 0 0) (fun t ht => by rcases show t = 0 ∨ t = 1 ∨ t = 2 by omega with rfl | rfl | rfl <;> (show _ < m; simp only [z_sqI]; omega)) (fun t ht => by rcases show t = 0 ∨ t = 1 by omega with rfl | rfl <;> (simp only [z_sqI]; omega))
      refine z_odd hf hs (z_mj_lt (hf i (by omega)) (hf j (by omega)) (hf k c3)) fun b hb => ?_
      rw [z_mj_tb]
      exact z_m3 _ _ _ _ (hk b hb).1 (hk b hb).2
    · intro h x hx ho
      have h3 : z_thr m f := by
        rcases h with h | ⟨h, _⟩ | ⟨_, _, h⟩
        · exact absurd h (by decide)
        · exact absurd h (by decide)
        · exact h
      refine ⟨_, z_thrA h3 ⟨x 0, hx 0 (by decide), rfl⟩ ⟨x 1, hx 1 (by decide), rfl⟩ ⟨x 2, hx 2 (by decide), rfl⟩, fun k _ => ?_⟩
      rw [z_mj_tb]
      exact z_m3r _ _ _
  · constructor
    · intro h
      refine Or.inr (Or.inl ⟨rfl, fun i j k l c1 c2 c3 c4 => ?_⟩)
      obtain ⟨s, hs, hk⟩ := h (z_sqI i j k l 0) (fun t ht => by rcases show t = 0 ∨ t = 1 ∨ t = 2 ∨ t = 3 by omega with rfl | rfl | rfl | rfl <;> (show _ < m; simp only [z_sqI]; omega)) (fun t ht => by rcases show t = 0 ∨ t = 1 ∨ t = 2 by omega with rfl | rfl | rfl <;> (simp only [z_sqI]; omega))
      exact ⟨s, hs, fun b hb => z_m4 _ _ _ _ _ (hk b hb).1 (hk b hb).2⟩
    · intro h x hx ho
      have h4 : z_fou q m f := by
        rcases h with h | ⟨_, h⟩ | ⟨_, h, _⟩
        · exact absurd h (by decide)
        · exact h
        · exact absurd rfl h
      have o0 : x 0 ≤ x 1 := ho 0 (by decide)
      have o1 : x 1 ≤ x 2 := ho 1 (by decide)
      have o2 : x 2 ≤ x 3 := ho 2 (by decide)
      by_cases c0 : x 0 = x 1
      · refine ⟨f (x 0), ⟨x 0, hx 0 (by decide), rfl⟩, fun k _ => ?_⟩
        have h5 := (z_m4a ((f (x 0)).testBit k) ((f (x 2)).testBit k) ((f (x 3)).testBit k)).1
        show (4 < 2 * (0 + z_bn ((f (x 0)).testBit k) + z_bn ((f (x 1)).testBit k) + z_bn ((f (x 2)).testBit k) + z_bn ((f (x 3)).testBit k)) → _) ∧ (2 * (0 + z_bn ((f (x 0)).testBit k) + z_bn ((f (x 1)).testBit k) + z_bn ((f (x 2)).testBit k) + z_bn ((f (x 3)).testBit k)) < 4 → _)
        rw [← c0]
        exact h5
      by_cases c1 : x 1 = x 2
      · refine ⟨f (x 1), ⟨x 1, hx 1 (by decide), rfl⟩, fun k _ => ?_⟩
        have h5 := (z_m4a ((f (x 1)).testBit k) ((f (x 0)).testBit k) ((f (x 3)).testBit k)).2.1
        show (4 < 2 * (0 + z_bn ((f (x 0)).testBit k) + z_bn ((f (x 1)).testBit k) + z_bn ((f (x 2)).testBit k) + z_bn ((f (x 3)).testBit k)) → _) ∧ (2 * (0 + z_bn ((f (x 0)).testBit k) + z_bn ((f (x 1)).testBit k) + z_bn ((f (x 2)).testBit k) + z_bn ((f (x 3)).testBit k)) < 4 → _)
        rw [← c1]
        exact h5
      by_cases c2 : x 2 = x 3
      · refine ⟨f (x 2), ⟨x 2, hx 2 (by decide), rfl⟩, fun k _ => ?_⟩
        have h5 := (z_m4a ((f (x 2)).testBit k) ((f (x 0)).testBit k) ((f (x 1)).testBit k)).2.2
        show (4 < 2 * (0 + z_bn ((f (x 0)).testBit k) + z_bn ((f (x 1)).testBit k) + z_bn ((f (x 2)).testBit k) + z_bn ((f (x 3)).testBit k)) → _) ∧ (2 * (0 + z_bn ((f (x 0)).testBit k) + z_bn ((f (x 1)).testBit k) + z_bn ((f (x 2)).testBit k) + z_bn ((f (x 3)).testBit k)) < 4 → _)
        rw [← c2]
        exact h5
      obtain ⟨s, hs, hk⟩ := h4 (x 0) (x 1) (x 2) (x 3) (by omega) (by omega) (by omega) (hx 3 (by decide))
      exact ⟨s, hs, fun k hq => z_m4r _ _ _ _ _ (hk k hq)⟩
  · constructor
    · intro h
      refine Or.inr (Or.inr ⟨by decide, by decide, fun i j k c1 c2 c3 => ?_⟩)
      obtain ⟨s, hs, hk⟩ := h (z_sqI i i j j k) (fun t ht => by rcases show t = 0 ∨ t = 1 ∨ t = 2 ∨ t = 3 ∨ t = 4 by omega with rfl | rfl | rfl | rfl | rfl <;> (show _ < m; simp only [z_sqI]; omega)) (fun t ht => by rcases show t = 0 ∨ t = 1 ∨ t = 2 ∨ t = 3 by omega with rfl | rfl | rfl | rfl <;> (simp only [z_sqI]; omega))
      refine z_odd hf hs (z_mj_lt (hf i (by omega)) (hf j (by omega)) (hf k c3)) fun b hb => ?_
      rw [z_mj_tb]
      exact z_m5 _ _ _ _ (hk b hb).1 (hk b hb).2
    · intro h x hx ho
      have h3 : z_thr m f := by
        rcases h with h | ⟨h, _⟩ | ⟨_, _, h⟩
        · exact absurd h (by decide)
        · exact absurd h (by decide)
        · exact h
      have e : ∀ j, j < 5 → z_inL m f (f (x j)) := fun j hj => ⟨x j, hx j hj, rfl⟩
      refine ⟨z_mj (f (x 0)) (z_mj (f (x 2)) (f (x 3)) (f (x 4))) (z_mj (f (x 1)) (f (x 2)) (z_mj (f (x 1)) (f (x 3)) (f (x 4)))), z_thrA h3 (e 0 (by decide)) (z_thrA h3 (e 2 (by decide)) (e 3 (by decide)) (e 4 (by decide))) (z_thrA h3 (e 1 (by decide)) (e 2 (by decide)) (z_thrA h3 (e 1 (by decide)) (e 3 (by decide)) (e 4 (by decide)))), fun k _ => ?_⟩
      rw [z_mj_tb, z_mj_tb, z_mj_tb, z_mj_tb]
      exact z_m5r _ _ _ _ _
end ZMD
/-! all benches gone through in the order of the reference -/
def z_lx (n : Nat) (y f : Nat → Nat) : Prop := ∃ j, j < n ∧ (∀ i, i < j → y i = f i) ∧ y j < f j
theorem z_lxle {n : Nat} {y f : Nat → Nat} (h : ∀ i, i < n → y i ≤ f i) : ∀ m, m ≤ n → (∀ i, i < m → y i = f i) ∨ z_lx n y f
  | 0, _ => Or.inl fun i hi => absurd hi (Nat.not_lt_zero i)
  | m + 1, hm => by
    rcases z_lxle h m (by omega) with h1 | h1
    · have h2 := h m (by omega)
      by_cases c : y m = f m
      · refine Or.inl fun i hi => ?_
        by_cases d : i = m
        · rw [d]
          exact c
        · exact h1 i (by omega)
      · exact Or.inr ⟨m, by omega, h1, by omega⟩
    · exact Or.inr h1
theorem z_lxS {n L j : Nat} {y f g : Nat → Nat} (hy : ∀ i, i < n → y i < L) (ho : ∀ i, i + 1 < n → y i ≤ y (i + 1)) (h : z_lx n y g) (jn : j < n) (h1 : ∀ i, i < j → g i = f i) (h2 : ∀ i, j ≤ i → i < n → g i = f j + 1) (h3 : ∀ i, j < i → i < n → f i + 1 = L) : (∀ i, i < n → y i = f i) ∨ z_lx n y f := by
  have mono : ∀ s i, i + s < n → y i ≤ y (i + s) := by
    intro s
    induction s with
    | zero => exact fun i _ => Nat.le_refl _
    | succ s ih => exact fun i hi => Nat.le_trans (ih i (by omega)) (ho (i + s) (by omega))
  obtain ⟨t, tn, e, l⟩ := h
  rcases Nat.lt_trichotomy t j with c | c | c
  · refine Or.inr ⟨t, tn, fun i hi => (e i hi).trans (h1 i (by omega)), ?_⟩
    rw [← h1 t c]
    exact l
  · rw [c] at e l
    rw [h2 j (Nat.le_refl j) jn] at l
    by_cases d : y j = f j
    · have hle : ∀ i, i < n → y i ≤ f i := fun i hi => by
        rcases Nat.lt_trichotomy i j with a | a | a
        · exact Nat.le_of_eq ((e i a).trans (h1 i a))
        · rw [a]
          exact Nat.le_of_eq d
        · have := h3 i a hi
          have := hy i hi
          omega
      exact z_lxle hle n (Nat.le_refl n)
    · exact Or.inr ⟨j, jn, fun i hi => (e i hi).trans (h1 i hi), by omega⟩
  · have h4 := mono (t - j) j (by omega)
    rw [show j + (t - j) = t by omega, e j c, h2 j (Nat.le_refl j) jn] at h4
    rw [h2 t (by omega) tn] at l
    omega
theorem z_lx0 {n : Nat} {y f : Nat → Nat} (h : z_lx n y f) (hf : ∀ i, i < n → f i = 0) : False := by
  obtain ⟨j, jn, _, l⟩ := h
  rw [hf j jn] at l
  exact Nat.not_lt_zero _ l
