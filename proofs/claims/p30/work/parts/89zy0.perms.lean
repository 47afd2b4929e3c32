/-! orders of questions -/
section ZPM
variable {Y Y2 : List Nat → Prop} {m m2 m3 : Nat} {f f2 f3 : Int}
def z_pm (q : Nat) : Nat → List Nat → List (List Nat)
  | 0, p => [p]
  | n + 1, p => (List.range q).flatMap fun v => if p.contains v then [] else z_pm q n (p ++ [v])
def z_dgt (l : List Nat) : Nat := l.foldl (fun a v => 10 * a + v) 0
theorem z_dgA (l : List Nat) (v : Nat) : z_dgt (l ++ [v]) = 10 * z_dgt l + v := by
  unfold z_dgt
  rw [List.foldl_append]
  rfl
/-- how many and the first, behind orders in a row -/
def z_tr (Y : List Nat → Prop) : List (List Nat) → Nat → Int → Nat → Int → Prop
  | [], m, f, m2, f2 => m2 = m ∧ f2 = f
  | l :: t, m, f, m2, f2 => (Y l ∧ z_tr Y t (m + 1) (if m = 0 then (z_dgt l : Int) else f) m2 f2) ∨ (¬ Y l ∧ z_tr Y t m f m2 f2)
theorem z_trA : ∀ {a b : List (List Nat)} {m f m2 f2}, z_tr Y (a ++ b) m f m2 f2 ↔ ∃ m1 f1, z_tr Y a m f m1 f1 ∧ z_tr Y b m1 f1 m2 f2
  | [], b, m, f, m2, f2 => ⟨fun h => ⟨m, f, ⟨rfl, rfl⟩, h⟩, fun ⟨m1, f1, ⟨h1, h2⟩, h3⟩ => by
    rw [h1, h2] at h3
    exact h3⟩
  | l :: t, b, m, f, m2, f2 => by
    constructor
    · rintro (⟨h1, h2⟩ | ⟨h1, h2⟩)
      · obtain ⟨m1, f1, h3, h4⟩ := z_trA.mp h2
        exact ⟨m1, f1, Or.inl ⟨h1, h3⟩, h4⟩
      · obtain ⟨m1, f1, h3, h4⟩ := z_trA.mp h2
        exact ⟨m1, f1, Or.inr ⟨h1, h3⟩, h4⟩
    · rintro ⟨m1, f1, ⟨h1, h3⟩ | ⟨h1, h3⟩, h4⟩
      · exact Or.inl ⟨h1, z_trA.mpr ⟨m1, f1, h3, h4⟩⟩
      · exact Or.inr ⟨h1, z_trA.mpr ⟨m1, f1, h3, h4⟩⟩
theorem z_trX : ∀ (a : List (List Nat)) (m : Nat) (f : Int), ∃ m2 f2, z_tr Y a m f m2 f2
  | [], m, f => ⟨m, f, rfl, rfl⟩
  | l :: t, m, f => by
    by_cases h : Y l
    · obtain ⟨m2, f2, h2⟩ := z_trX t (m + 1) (if m = 0 then (z_dgt l : Int) else f)
      exact ⟨m2, f2, Or.inl ⟨h, h2⟩⟩
    · obtain ⟨m2, f2, h2⟩ := z_trX t m f
      exact ⟨m2, f2, Or.inr ⟨h, h2⟩⟩
theorem z_trU : ∀ {a : List (List Nat)} {m f m2 f2 m3 f3}, z_tr Y a m f m2 f2 → z_tr Y a m f m3 f3 → m2 = m3 ∧ f2 = f3
  | [], _, _, _, _, _, _, ⟨h1, h2⟩, ⟨h3, h4⟩ => ⟨h1.trans h3.symm, h2.trans h4.symm⟩
  | _ :: _, _, _, _, _, _, _, Or.inl ⟨_, h2⟩, Or.inl ⟨_, h4⟩ => z_trU h2 h4
  | _ :: _, _, _, _, _, _, _, Or.inl ⟨h1, _⟩, Or.inr ⟨h3, _⟩ => absurd h1 h3
  | _ :: _, _, _, _, _, _, _, Or.inr ⟨h1, _⟩, Or.inl ⟨h3, _⟩ => absurd h3 h1
  | _ :: _, _, _, _, _, _, _, Or.inr ⟨_, h2⟩, Or.inr ⟨_, h4⟩ => z_trU h2 h4
/-- once there is one the first stays -/
theorem z_trF : ∀ {a : List (List Nat)} {m f m2 f2}, z_tr Y a m f m2 f2 → m ≠ 0 → f2 = f
  | [], _, _, _, _, ⟨_, h2⟩, _ => h2
  | _ :: _, m, f, _, _, Or.inl ⟨_, h2⟩, h => by
    have h3 := z_trF h2 (by omega)
    rw [if_neg h] at h3
    exact h3
  | _ :: _, _, _, _, _, Or.inr ⟨_, h2⟩, h => z_trF h2 h
theorem z_trM : ∀ {a : List (List Nat)} {m f m2 f2}, z_tr Y a m f m2 f2 → m ≤ m2 ∧ m2 ≤ m + a.length
  | [], _, _, _, _, ⟨h1, _⟩ => by
    rw [h1]
    exact ⟨Nat.le_refl _, Nat.le_refl _⟩
  | l :: t, m, f, m2, f2, Or.inl ⟨_, h2⟩ => by
    have h3 := z_trM h2
    rw [List.length_cons]
    omega
  | l :: t, m, f, m2, f2, Or.inr ⟨_, h2⟩ => by
    have h3 := z_trM h2
    rw [List.length_cons]
    omega
/-- where none came the first is none -/
theorem z_tr0 : ∀ {a : List (List Nat)} {m f m2 f2}, z_tr Y a m f m2 f2 → m2 = m → f2 = f
  | [], _, _, _, _, ⟨_, h2⟩, _ => h2
  | _ :: _, m, f, _, _, Or.inl ⟨_, h2⟩, h => by
    have h3 := (z_trM h2).1
    omega
  | _ :: _, _, _, _, _, Or.inr ⟨_, h2⟩, h => z_tr0 h2 h
theorem z_trY {l : List Nat} (h : Y l) : z_tr Y [l] m f (m + 1) (if m = 0 then (z_dgt l : Int) else f) := Or.inl ⟨h, rfl, rfl⟩
theorem z_trN {l : List Nat} (h : ¬ Y l) : z_tr Y [l] m f m f := Or.inr ⟨h, rfl, rfl⟩
/-- one more of a row -/
theorem z_trS {L : List (List Nat)} {k : Nat} (hk : k < L.length) (h : z_tr Y (L.take k) m f m2 f2) (h2 : z_tr Y [L.getD k []] m2 f2 m3 f3) : z_tr Y (L.take (k + 1)) m f m3 f3 := by
  rw [List.take_succ_eq_append_getElem hk]
  have e : L.getD k [] = L[k] := by
    rw [List.getD_eq_getElem?_getD, List.getElem?_eq_getElem hk]
    rfl
  rw [e] at h2
  exact z_trA.mpr ⟨_, _, h, h2⟩
theorem z_tr1 {L : List (List Nat)} {k : Nat} (hk : k < L.length) (h : z_tr Y (L.take k) 0 f 0 f2) (h2 : Y (L.getD k [])) : ∃ m3, z_tr Y L 0 f m3 (z_dgt (L.getD k []) : Int) := by
  have h3 := z_trS hk h (z_trY h2)
  rw [if_pos rfl] at h3
  obtain ⟨m4, f4, h4⟩ := z_trX (Y := Y) (L.drop (k + 1)) (0 + 1) (z_dgt (L.getD k []) : Int)
  have h5 := z_trF h4 (by decide)
  rw [h5] at h4
  have h6 := z_trA.mpr ⟨_, _, h3, h4⟩
  rw [List.take_append_drop] at h6
  exact ⟨m4, h6⟩
/-- numbers below ten -/
theorem z_dgB : ∀ {l : List Nat}, (∀ v, v ∈ l → v < 10) → z_dgt l < 10 ^ l.length := by
  intro l h
  suffices H : ∀ (l : List Nat) (a n : Nat), (∀ v, v ∈ l → v < 10) → a < 10 ^ n → l.foldl (fun a v => 10 * a + v) a < 10 ^ (n + l.length) from by
    have h2 := H l 0 0 h (by decide)
    rw [Nat.zero_add] at h2
    exact h2
  intro l
  induction l with
  | nil => exact fun a n _ h => h
  | cons v t ih =>
    intro a n hv ha
    have h1 := hv v List.mem_cons_self
    have h2 := ih (10 * a + v) (n + 1) (fun w hw => hv w (List.mem_cons_of_mem _ hw)) (by rw [Nat.pow_succ]; omega)
    rw [List.length_cons, Nat.add_comm t.length 1, ← Nat.add_assoc]
    exact h2
/-- what stands in an array is this order -/
def z_rp (g : Nat → Int32) (q : Nat) (l : List Nat) : Prop := l.length = q ∧ ∀ i, i < q → (g i).toInt = ((l.getD i 0 : Nat) : Int)
def z_fc : Nat → Nat
  | 0 => 1
  | n + 1 => (n + 1) * z_fc n
/-- the step to the next order -/
def z_hlx (l : List Nat) (r a i : Nat) : Nat := if i = r then l.getD a 0 else if i = a then l.getD r 0 else l.getD i 0
def z_nxl (q : Nat) (l : List Nat) (r a : Nat) : List Nat := (List.range q).map fun i => z_hlx l r a (if i ≤ r then i else r + q - i)
def z_ncx (q : Nat) (l : List Nat) (r a : Nat) : Bool := decide (r < a) && decide (l.getD r 0 ≤ l.getD (r + 1) 0) && decide (l.getD r 0 ≤ l.getD a 0) && ((List.range q).all fun k => !(decide (a < k)) || decide (l.getD k 0 < l.getD r 0)) && ((List.range q).all fun k => !(decide (r < k) && decide (k + 1 < q)) || decide (l.getD (k + 1) 0 < l.getD k 0))
def z_dsc (q : Nat) (l : List Nat) : Bool := (List.range q).all fun k => !(decide (k + 1 < q)) || decide (l.getD (k + 1) 0 < l.getD k 0)
def z_ckp (q : Nat) : Bool := (z_pm q q []).length == z_fc q && (z_pm q q []).getD 0 [] == List.range q && ((z_pm q q []).all fun l => l.length == q && l.all fun v => decide (v < q)) && ((List.range (z_fc q - 1)).all fun k => !(z_dsc q ((z_pm q q []).getD k [])) && ((List.range q).all fun r => (List.range q).all fun a => !(z_ncx q ((z_pm q q []).getD k []) r a) || z_nxl q ((z_pm q q []).getD k []) r a == (z_pm q q []).getD (k + 1) []))
theorem z_ckT : ((List.range 7).all fun q => z_ckp q) = true := by decide +kernel
end ZPM
