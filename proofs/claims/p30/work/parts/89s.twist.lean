/-! twist: the told bench is as it was -/
theorem z_alt.ne {M M1 : zH} {b i : Nat} {j Y N : Int32} (h : z_alt M M1 b j Y N) (hi : i ≠ j.toNatClampNeg) : z_Ar M1 (b + 2) i = z_Ar M (b + 2) i ∧ z_Ar M1 (b + 3) i = z_Ar M (b + 3) i := by
  rw [h.1, h.2]
  show (if i = j.toNatClampNeg then Y else z_Ar M (b + 2) i) = _ ∧ (if i = j.toNatClampNeg then N else z_Ar M (b + 3) i) = _
  rw [if_neg hi, if_neg hi]
  exact ⟨rfl, rfl⟩
theorem z_alt.eq {M M1 : zH} {b : Nat} {j Y N : Int32} (h : z_alt M M1 b j Y N) : z_Ar M1 (b + 2) j.toNatClampNeg = Y ∧ z_Ar M1 (b + 3) j.toNatClampNeg = N := by
  rw [h.1, h.2]
  show (if j.toNatClampNeg = j.toNatClampNeg then Y else z_Ar M (b + 2) j.toNatClampNeg) = _ ∧ (if j.toNatClampNeg = j.toNatClampNeg then N else z_Ar M (b + 3) j.toNatClampNeg) = _
  rw [if_pos rfl, if_pos rfl]
  exact ⟨rfl, rfl⟩
theorem z_tw1 {a b c d e f : Int32} (h : a = b ∧ c = d) (h2 : b = e ∧ d = f) : a = e ∧ c = f := ⟨h.1.trans h2.1, h.2.trans h2.2⟩
def z_tw (M0 M1 : zH) (b : Nat) (j : Int32) (q : Nat) : Prop := (∀ i : Nat, i ≠ j.toNatClampNeg → z_Ar M1 (b + 2) i = z_Ar M0 (b + 2) i ∧ z_Ar M1 (b + 3) i = z_Ar M0 (b + 3) i) ∧ z_Ar M1 (b + 2) j.toNatClampNeg = z_Ar M0 (b + 2) j.toNatClampNeg ∧ ∃ A : Int32, A.toInt = ((z_po q : Nat) : Int) - 1 ∧ z_Ar M1 (b + 3) j.toNatClampNeg = A &&& (z_Ar M0 (b + 2) j.toNatClampNeg ^^^ (-1 : Int32))
/-- a judge who isn't silent: no ones are what isn't yes -/
theorem z_silent {y n A : Int32} (h : (y ||| n).toInt = A.toInt) (h2 : (y &&& n).toInt = 0) : A &&& (y ^^^ (-1 : Int32)) = n := by
  have e : A = y ||| n := (Int32.toInt_inj.mp h).symm
  have h3 := z_z32.mp h2
  apply Int32.toBitVec_inj.mp
  apply BitVec.eq_of_getLsbD_eq
  intro i hi
  have h4 := h3 i hi
  rw [Int32.toBitVec_and, BitVec.getLsbD_and] at h4
  rw [e, Int32.toBitVec_and, BitVec.getLsbD_and, Int32.toBitVec_or, BitVec.getLsbD_or, Int32.toBitVec_xor, BitVec.getLsbD_xor, z_m1b i hi]
  cases a : y.toBitVec.getLsbD i with
  | false =>
    cases b : n.toBitVec.getLsbD i with
    | false => rfl
    | true => rfl
  | true =>
    cases b : n.toBitVec.getLsbD i with
    | false => rfl
    | true =>
      rw [a, b] at h4
      cases h4
