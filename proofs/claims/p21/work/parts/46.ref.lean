/-! the reference's agenda: what was founded has lawful sets -/
/-- the agendas that were founded have lawful sets -/
def z_A4 (M : zH) (A : Int) : Prop := ∀ r : Nat, (r : Int) < A → 1 ≤ (z_Ar M 31 r).toInt
theorem z_A4.ke {M M1 : zH} {A : Int} {T : List zK} {rs : List Nat} (h : z_A4 M A) (hX : z_ke T rs M M1) (k31 : T[31]? = some (.inr (31, 0, 8, 0, 1024))) (hr : ¬ 31 ∈ rs) : z_A4 M1 A := by
  unfold z_A4
  rw [hX.a k31 hr]
  exact h
theorem z_G4.ke {M M1 : zH} {T : List zK} {rs : List Nat} (h : z_G4 M) (hX : z_ke T rs M M1) (k19 : T[19]? = some (.inl (12, 0, 0, 0, 0))) (k31 : T[31]? = some (.inr (31, 0, 8, 0, 1024))) (hr : ¬ 2213 ∈ rs ∧ ¬ 31 ∈ rs) : z_G4 M1 := by
  unfold z_G4
  rw [hX.1 19 12 0 0 0 0 13 k19 hr.1, hX.a k31 hr.2]
  exact h
theorem z_G4.a4 {M : zH} {A : Int32} (h : z_G4 M) (hF : z_F M 19 13 = some (.int A)) : z_A4 M A.toInt := h A hF
theorem z_A4.g4 {M : zH} {A : Int32} {a : Int} (h : z_A4 M a) (hF : z_F M 19 13 = some (.int A)) (he : A.toInt = a) : z_G4 M := fun B hB r hr => by
  rw [hF] at hB
  cases hB
  exact h r (by omega)
theorem z_A4.one {M : zH} {x w : Int32} {a : Int} (h : z_A4 M a) (hw : z_Ar M 31 x.toNatClampNeg = w) (he : x.toInt = a) (h0 : 0 ≤ a) (h1 : 1 ≤ w.toInt) : z_A4 M (a + 1) := fun r hr => by
  by_cases hl : (r : Int) < a
  · exact h r hl
  · have e : r = x.toNatClampNeg := by unfold Int32.toNatClampNeg; omega
    rw [e, hw]
    exact h1
theorem z_A4.st {M M1 : zH} {x v : Int32} {a : Int} (h : z_A4 M a) (hw : z_Ar M1 31 = upd (z_Ar M 31) x.toNatClampNeg v) (he : x.toInt = a) (h0 : 0 ≤ a) : z_A4 M1 a := fun r hr => by
  have e : r ≠ x.toNatClampNeg := by unfold Int32.toNatClampNeg; omega
  rw [hw]
  unfold upd
  rw [if_neg e]
  exact h r hr
