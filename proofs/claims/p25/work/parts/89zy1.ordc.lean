/-! orders of the class, told -/
def z_swa (f : Nat → Int32) (r a i : Nat) : Int32 := if i = r then f a else if i = a then f r else f i
def z_rvI (f A : Nat → Int32) (q r a lo hi : Nat) : Prop := (lo + hi = r + q ∧ r < lo ∧ lo ≤ hi + 1) ∧ ∀ i, i < q → A i = if (r < i ∧ i < lo) ∨ hi < i then z_swa f r a (r + q - i) else z_swa f r a i
theorem z_rvI.fin {f A : Nat → Int32} {q r a lo hi : Nat} (h : z_rvI f A q r a lo hi) (hr : r + 1 < q) (he : hi ≤ lo) : ∀ i, i < q → A i = z_swa f r a (if i ≤ r then i else r + q - i) := fun i hi2 => by
  obtain ⟨⟨h1, h2, h3⟩, h4⟩ := h
  rw [h4 i hi2]
  by_cases c : i ≤ r
  · rw [if_pos c, if_neg (by omega)]
  · rw [if_neg c]
    by_cases d : (r < i ∧ i < lo) ∨ hi < i
    · rw [if_pos d]
    · rw [if_neg d, show r + q - i = i by omega]
theorem z_rvI.step {f A A1 A2 : Nat → Int32} {q r a lo hi lo2 hi2 : Nat} {x y : Int32} (h : z_rvI f A q r a lo hi) (hq : hi < q) (hl : lo < hi) (hx : A lo = x) (hy : A hi = y) (h1 : A1 = upd A lo y) (h2 : A2 = upd A1 hi x) (e1 : lo2 = lo + 1) (e2 : hi2 = hi - 1) : z_rvI f A2 q r a lo2 hi2 := by
  obtain ⟨⟨g1, g2, g3⟩, g4⟩ := h
  refine ⟨⟨by omega, by omega, by omega⟩, fun i hi3 => ?_⟩
  have k1 := g4 lo (by omega)
  have k2 := g4 hi hq
  rw [if_neg (by omega)] at k1 k2
  rw [h2, h1]
  show (if i = hi then x else if i = lo then y else A i) = _
  by_cases c : i = hi
  · rw [if_pos c, if_pos (by omega), ← hx, k1, show r + q - i = lo by omega]
  · rw [if_neg c]
    by_cases d : i = lo
    · rw [if_pos d, if_pos (by omega), ← hy, k2, show r + q - i = hi by omega]
    · rw [if_neg d, g4 i hi3]
      by_cases e : (r < i ∧ i < lo) ∨ hi < i
      · rw [if_pos e, if_pos (by omega)]
      · rw [if_neg e, if_neg (by omega)]
/-! how many orders of the class, told -/
