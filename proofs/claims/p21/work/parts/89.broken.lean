/-! broken of both sides -/
/-- an answer about an agenda: none such, or as told -/
def z_qA (T : List zK) (M : zH) (p : Int32) (x : Int) (R : Nat → Nat → Nat → Nat → Nat → (Nat → Nat) → Prop) : Prop := ∃ A : Int32, z_F M 4 3 = some (.int A) ∧ ((x = -1 ∧ ¬ (0 ≤ p.toInt ∧ p.toInt < A.toInt)) ∨ ((0 ≤ p.toInt ∧ p.toInt < A.toInt) ∧ ∃ (b N q t m pr en : Nat) (B : Nat → Nat), z_AB T M p.toNatClampNeg b N q t m pr en B ∧ R q t m pr en B))
def y_qA (M : zH) (p : Int32) (x : Int) (R : Prop) : Prop := ∃ A : Int32, z_F M 19 13 = some (.int A) ∧ ((x = -1 ∧ ¬ (0 ≤ p.toInt ∧ p.toInt < A.toInt)) ∨ ((0 ≤ p.toInt ∧ p.toInt < A.toInt) ∧ R))
theorem z_qA0 {T : List zK} {M : zH} {p A : Int32} {x : Int} {R : Nat → Nat → Nat → Nat → Nat → (Nat → Nat) → Prop} (hA : z_F M 4 3 = some (.int A)) (h : x = -1) (hp : p.toInt < 0 ∨ A.toInt ≤ p.toInt) : z_qA T M p x R := ⟨A, hA, Or.inl ⟨h, by omega⟩⟩
theorem z_qA1 {T : List zK} {M : zH} {p A : Int32} {x : Int} {b N q t m pr en : Nat} {B : Nat → Nat} {R : Nat → Nat → Nat → Nat → Nat → (Nat → Nat) → Prop} (hA : z_F M 4 3 = some (.int A)) (hp : 0 ≤ p.toInt ∧ p.toInt < A.toInt) (h : z_AB T M p.toNatClampNeg b N q t m pr en B) (hR : R q t m pr en B) : z_qA T M p x R := ⟨A, hA, Or.inr ⟨hp, b, N, q, t, m, pr, en, B, h, hR⟩⟩
theorem y_qA0 {M : zH} {p A : Int32} {x : Int} {R : Prop} (hA : z_F M 19 13 = some (.int A)) (h : x = -1) (hp : p.toInt < 0 ∨ A.toInt ≤ p.toInt) : y_qA M p x R := ⟨A, hA, Or.inl ⟨h, by omega⟩⟩
theorem y_qA1 {M : zH} {p A : Int32} {x : Int} {R : Prop} (hA : z_F M 19 13 = some (.int A)) (hp : 0 ≤ p.toInt ∧ p.toInt < A.toInt) (hR : R) : y_qA M p x R := ⟨A, hA, Or.inr ⟨hp, hR⟩⟩
theorem z_R6.at {T : List zK} {M : zH} (h6 : z_R6 T M) {A p : Int32} (hA : z_F M 4 3 = some (.int A)) (h0 : 0 ≤ p.toInt) (hp : p.toInt < A.toInt) {b N q t m : Nat} (ho : z_O M 10 p.toNatClampNeg = some b) (kb : T[b]? = some (.inl (3, q, t, m, 9))) (hf : z_F M b 0 = some (.ref N)) : ∃ (pr en : Nat) (B : Nat → Nat), z_AB T M p.toNatClampNeg b N q t m pr en B := by
  have ex : (p.toNatClampNeg : Int) = p.toInt := by unfold Int32.toNatClampNeg; omega
  obtain ⟨b', N', q', t', m', pr, en, B, hAB⟩ := h6 A hA p.toNatClampNeg (by omega)
  have ob' := hAB.1
  have kb' := hAB.2.1
  have fb' := hAB.2.2.1
  obtain rfl : b = b' := Option.some.inj (ho.symm.trans ob')
  rw [kb] at kb'
  cases kb'
  obtain rfl : N = N' := by rw [hf] at fb'; cases fb'; rfl
  exact ⟨pr, en, B, hAB⟩
/-- both sides answer of the same agenda -/
theorem z_qAs {T : List zK} {M M1 : zH} {p : Int32} {x y : Int} {rs : List Nat} {R : Nat → Nat → Nat → Nat → Nat → (Nat → Nat) → Prop} {R2 : Prop} (hW : z_W M T) (ke : z_ke T rs M M1) (hs : (z_agr.all fun x => !rs.elem x) = true) (hA2 : (z_Fv M1 19 13).toInt = (z_Fv M 4 3).toInt) (h1 : z_qA T M p x R) (h2 : y_qA M1 p y R2) (hR : ∀ q t m pr en B, y_AGO M1 p.toNatClampNeg q t m pr en B → q ≤ 10 → m = z_lc B (2 ^ q) → R q t m pr en B → R2 → x = y) : x = y := by
  obtain ⟨A, hA, h1⟩ := h1
  obtain ⟨A2, hA3, h2⟩ := h2
  rw [z_Fv.of hA3, z_Fv.of hA] at hA2
  rcases h1 with ⟨h1, h3⟩ | ⟨h3, b, N, q, t, m, pr, en, B, hAB, h1⟩
  · rcases h2 with ⟨h2, _⟩ | ⟨h4, _⟩
    · rw [h1, h2]
    · exfalso; omega
  · rcases h2 with ⟨_, h4⟩ | ⟨_, h2⟩
    · exfalso; omega
    · exact hR q t m pr en B (hAB.2.2.2.2.ke hW ke hs) (hW.p2 hAB.2.2.2.1.1).1.2.1 hAB.2.2.2.1.2.2.1 h1 h2
