/-! the letters of the questions, and other facts of arrays -/
theorem z_nc {x : Int32} (h : 0 ≤ x.toInt) : (x.toNatClampNeg : Int) = x.toInt := by unfold Int32.toNatClampNeg; omega
def z_NQ (M : zH) (r c : Int32) (n : Int) : Prop := ∀ k : Nat, (k : Int) < n → (z_Ar M 23 (10 * r.toNatClampNeg + k)).toInt ≠ c.toInt
theorem z_NQ0 {M : zH} {r c : Int32} {n : Int} (h : n ≤ 0) : z_NQ M r c n := fun k hk => by omega
theorem z_NQs {M : zH} {r c i y : Int32} {n n2 : Int} (h : z_NQ M r c n) (hy : z_Ar M 23 i.toNatClampNeg = y) (r0 : 0 ≤ r.toInt) (n0 : 0 ≤ n) (hi : i.toInt = 10 * r.toInt + n) (hn : n2 = n + 1) (hc : y.toInt ≠ c.toInt) : z_NQ M r c n2 := fun k hk => by
  by_cases e : (k : Int) < n
  · exact h k e
  · have e1 := z_nc r0
    have e2 := z_nc (x := i) (by omega)
    have e3 : 10 * r.toNatClampNeg + k = i.toNatClampNeg := by omega
    rw [e3, hy]
    exact hc
theorem z_NQm {M M1 : zH} {r c : Int32} {n n2 : Int} (h : z_NQ M r c n) (e : z_Ar M1 23 = z_Ar M 23) (hn : n2 ≤ n) : z_NQ M1 r c n2 := fun k hk => by
  rw [e]
  exact h k (by omega)
/-- the first n letters are of a .. j, no two the same -/
def z_FP (M : zH) (r : Int32) (n : Int) : Prop := ∀ i : Nat, (i : Int) < n → (97 ≤ (z_Ar M 23 (10 * r.toNatClampNeg + i)).toInt ∧ (z_Ar M 23 (10 * r.toNatClampNeg + i)).toInt ≤ 106) ∧ ∀ j : Nat, (j : Int) < i → (z_Ar M 23 (10 * r.toNatClampNeg + i)).toInt ≠ (z_Ar M 23 (10 * r.toNatClampNeg + j)).toInt
theorem z_FP0 {M : zH} {r : Int32} {n : Int} (h : n ≤ 0) : z_FP M r n := fun k hk => by omega
/-- so many different numbers of ten: at most ten -/
theorem z_php : ∀ (m : Nat) (f : Nat → Int) (n : Nat), (∀ i, i < n → 0 ≤ f i ∧ f i < m) → (∀ i j, i < n → j < i → f i ≠ f j) → n ≤ m
  | 0, f, n, h, _ => by
    by_cases e : n = 0
    · omega
    · have := h 0 (by omega); omega
  | m + 1, f, n, h, hd => by
    -- the place of m, if it is there, is taken out
    by_cases e : ∃ p, p < n ∧ f p = m
    · obtain ⟨p, hp, hpm⟩ := e
      have := z_php m (fun i => if i < p then f i else f (i + 1)) (n - 1) (fun i hi => by
          try dsimp only
          split
          · rename_i hip
            have h1 := h i (by omega)
            have h2 := hd p i hp hip
            omega
          · have h1 := h (i + 1) (by omega)
            have h2 := hd (i + 1) p (by omega) (by omega)
            omega) (fun i j hi hj => by
          try dsimp only
          split <;> split
          · exact hd i j (by omega) hj
          · omega
          · exact hd (i + 1) j (by omega) (by omega)
          · exact hd (i + 1) (j + 1) (by omega) (by omega))
      omega
    · have := z_php m f n (fun i hi => by
          have h1 := h i hi
          have h2 : f i ≠ m := fun z => e ⟨i, hi, z⟩
          omega) hd
      omega
theorem z_FPn {M : zH} {r c : Int32} {n : Int} (h : z_FP M r n) (hq : z_NQ M r c n) (c0 : 97 ≤ c.toInt) (c1 : c.toInt ≤ 106) : n ≤ 9 := by
  by_cases hn : n ≤ 9
  · exact hn
  · exfalso
    have := z_php 10 (fun i => if i < 10 then (z_Ar M 23 (10 * r.toNatClampNeg + i)).toInt - 97 else c.toInt - 97) 11 (fun i hi => by
        try dsimp only
        split
        · rename_i h1
          have := (h i (by omega)).1
          omega
        · omega) (fun i j hi hj => by
        try dsimp only
        rw [if_pos (show j < 10 by omega)]
        split
        · rename_i h1
          have := (h i (by omega)).2 j (by omega)
          omega
        · have := hq j (by omega)
          omega)
    omega
/-- one letter more -/
theorem z_FPs {M M1 : zH} {r c i : Int32} {n n2 : Int} (h : z_FP M r n) (hq : z_NQ M r c n) (c0 : 97 ≤ c.toInt) (c1 : c.toInt ≤ 106) (e : z_Ar M1 23 = upd (z_Ar M 23) i.toNatClampNeg c) (r0 : 0 ≤ r.toInt) (n0 : 0 ≤ n) (hi : i.toInt = 10 * r.toInt + n) (hn : n2 = n + 1) : z_FP M1 r n2 := by
  have e1 := z_nc r0
  have e2 := z_nc (x := i) (by omega)
  have hold : ∀ k : Nat, (k : Int) < n → z_Ar M1 23 (10 * r.toNatClampNeg + k) = z_Ar M 23 (10 * r.toNatClampNeg + k) := fun k hk => by
    rw [e]
    have : 10 * r.toNatClampNeg + k ≠ i.toNatClampNeg := by omega
    simp [upd, this]
  intro k hk
  by_cases e3 : (k : Int) < n
  · rw [hold k e3]
    obtain ⟨h1, h2⟩ := h k e3
    exact ⟨h1, fun j hj => by rw [hold j (by omega)]; exact h2 j hj⟩
  · have e4 : 10 * r.toNatClampNeg + k = i.toNatClampNeg := by omega
    have e5 : z_Ar M1 23 (10 * r.toNatClampNeg + k) = c := by rw [e, e4]; simp [upd]
    rw [e5]
    exact ⟨⟨c0, c1⟩, fun j hj => by rw [hold j (by omega)]; exact fun z => hq j (by omega) z.symm⟩
theorem z_FPm {M M1 : zH} {r : Int32} {n n2 : Int} (h : z_FP M r n) (e : z_Ar M1 23 = z_Ar M 23) (hn : n2 = n) : z_FP M1 r n2 := by
  subst hn
  unfold z_FP
  rw [e]
  exact h
/-- the letters' rule over the two writes -/
theorem z_GLz {M M1 : zH} {r v : Int32} (h : z_GL M) (e3 : z_Ar M1 23 = z_Ar M 23) (e4 : z_Ar M1 24 = upd (z_Ar M 24) r.toNatClampNeg v) (hv : v.toInt ≤ 0) : z_GL M1 := fun a q ha hq hl => by
  rw [e3]
  by_cases ea : a = r.toNatClampNeg
  · subst ea
    rw [e4] at hl
    simp only [upd, if_true] at hl
    omega
  · rw [e4] at hl
    simp only [upd, if_neg ea] at hl
    exact h a q ha hq hl
theorem z_GLl {M M1 : zH} {r i c w : Int32} (h : z_GL M) (hw : z_Ar M 24 r.toNatClampNeg = w) (r0 : 0 ≤ r.toInt) (w0 : 0 ≤ w.toInt) (w1 : w.toInt ≤ 9) (hi : i.toInt = 10 * r.toInt + w.toInt) (e3 : z_Ar M1 23 = upd (z_Ar M 23) i.toNatClampNeg c) (e4 : z_Ar M1 24 = z_Ar M 24) : z_GL M1 := fun a q ha hq hl => by
  rw [e4] at hl
  have e1 := z_nc r0
  have e2 := z_nc (x := i) (by omega)
  have : 10 * a + q ≠ i.toNatClampNeg := fun z => by
    have ea : a = r.toNatClampNeg := by omega
    subst ea
    rw [hw] at hl
    omega
  rw [e3]
  simp only [upd, if_neg this]
  exact h a q ha hq hl
theorem z_GLq {M M1 : zH} {r i c w v : Int32} (h : z_GL M) (hw : z_Ar M 24 r.toNatClampNeg = w) (r0 : 0 ≤ r.toInt) (hi : i.toInt = 10 * r.toInt + w.toInt) (w0 : 0 ≤ w.toInt) (hc : z_Ar M 23 i.toNatClampNeg = c) (c0 : c.toInt ≠ 0) (hv : v.toInt = w.toInt + 1) (e3 : z_Ar M1 23 = z_Ar M 23) (e4 : z_Ar M1 24 = upd (z_Ar M 24) r.toNatClampNeg v) : z_GL M1 := fun a q ha hq hl => by
  rw [e3]
  by_cases ea : a = r.toNatClampNeg
  · subst ea
    rw [e4] at hl
    simp only [upd, if_true] at hl
    by_cases eq : (q : Int) < w.toInt
    · exact h _ q ha hq (by rw [hw]; exact eq)
    · have e1 := z_nc r0
      have e2 := z_nc (x := i) (by omega)
      have : 10 * r.toNatClampNeg + q = i.toNatClampNeg := by omega
      rw [this, hc]
      exact c0
  · rw [e4] at hl
    simp only [upd, if_neg ea] at hl
    exact h a q ha hq hl
theorem z_GL.ke {M M1 : zH} {T : List zK} {rs : List Nat} (h : z_GL M) (hX : z_ke T rs M M1) (k23 : T[23]? = some (.inr (23, 0, 80, -2147483648, 2147483647))) (k24 : T[24]? = some (.inr (24, 0, 8, 0, 10))) (hr : ¬ 23 ∈ rs ∧ ¬ 24 ∈ rs) : z_GL M1 := by
  unfold z_GL
  rw [hX.a k23 hr.1, hX.a k24 hr.2]
  exact h
