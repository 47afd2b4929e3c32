/-! votes, far: weights of answers, distances -/
section ZVS
variable {f w f2 w2 y n : Nat → Int32} {k s b x v sh an mu ad xo a1 a2 W c i i2 : Int32}
end ZVS
/-- the seats as sitDown leaves them -/
def z_sit (M0 M1 : zH) (a : Nat) : Prop := z_F M1 19 30 = some (.int (z_Ar M0 35 a)) ∧ ∀ j, j < (z_Ar M0 35 a).toInt.toNat → z_Ar M1 39 j = z_Ar M0 32 (9 * a + j) ∧ z_Ar M1 40 j = z_Ar M0 33 (9 * a + j) ∧ z_Ar M1 41 j = z_Ar M0 34 (9 * a + j)
theorem z_sit.nn {M0 M1 : zH} {a : Nat} (h : z_sit M0 M1 a) (hy : ∀ j, j < (z_Ar M0 35 a).toInt.toNat → 0 ≤ (z_Ar M0 33 (9 * a + j)).toInt ∧ 0 ≤ (z_Ar M0 34 (9 * a + j)).toInt) : ∀ j, j < (z_Ar M0 35 a).toInt.toNat → 0 ≤ (z_Ar M1 40 j).toInt ∧ 0 ≤ (z_Ar M1 41 j).toInt := fun j hj => by
  rw [(h.2 j hj).2.1, (h.2 j hj).2.2]
  exact hy j hj
theorem z_R7.nn {T : List zK} {M : zH} (h7 : z_R7 T M) {A p jv : Int32} {b q t m : Nat} (hA : z_F M 4 3 = some (.int A)) (hp : 0 ≤ p.toInt ∧ p.toInt < A.toInt) (ob : z_O M 10 p.toNatClampNeg = some b) (kb : T[b]? = some (.inl (3, q, t, m, 9))) (hj : z_F M b 4 = some (.int jv)) : ∀ j, j < jv.toInt.toNat → 0 ≤ (z_Ar M (b + 2) j).toInt ∧ 0 ≤ (z_Ar M (b + 3) j).toInt := fun j hjj => by
  obtain ⟨b2, q2, t2, m2, g1, g2, J, w, yy, n, g3, g4, g5, g6⟩ := (h7.2 A hA).1 p.toNatClampNeg (z_pc hp)
  obtain rfl : b = b2 := Option.some.inj (ob.symm.trans g1)
  obtain ⟨⟨x, e1, e2⟩, g4⟩ := g4
  rw [z_ive hj e1] at hjj
  have hj' : j < J := by omega
  rw [(g4 j hj').2.1, (g4 j hj').2.2]
  exact ⟨(g6 j hj').1.1.1, (g6 j hj').1.2.1.1⟩
