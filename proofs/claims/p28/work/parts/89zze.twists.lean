/-! twisted: a judge with another set, the class -/
section ZTWP
variable {F : Nat → Nat} {j v w n m i : Nat}
end ZTWP
def z_twIn (T : List zK) (M : zH) (a1 a4 N q t m pr en sa n : Nat) (B F : Nat → Nat) (S : Nat → Int32) (A : Int32) (c sh ch j : Nat) : Prop := (∃ (v : Nat) (G : Nat → Nat), v < m ∧ z_TSG T M a1 N q t m pr en sa n B (z_fx1 F j v) G S A) ∧ z_RM M a4 c B q pr en sh ch m n S A
theorem z_twIn.ke {T : List zK} {M M1 : zH} {a1 a4 N q t m pr en sa n : Nat} {B F : Nat → Nat} {S : Nat → Int32} {A : Int32} {c sh ch j : Nat} {rs : List Nat} (h : z_twIn T M a1 a4 N q t m pr en sa n B F S A c sh ch j) (X : z_X T rs M M1) (hr : (z_tsr.all fun x => !rs.elem x) = true) (e : z_Ar M1 a4 = z_Ar M a4) : z_twIn T M1 a1 a4 N q t m pr en sa n B F S A c sh ch j := by
  obtain ⟨⟨v, G, hv, hS⟩, hRM⟩ := h
  exact ⟨⟨v, G, hv, hS.ke X hr⟩, hRM.eq e⟩
theorem z_cA.O {T : List zK} {M : zH} (h : z_cA M) (hW : z_W M T) : z_chO M := by
  obtain ⟨f, e1, e2, _⟩ := hW.ai (hW.k (k := 1) (κ := z_ai 1 102 0 4368) rfl (by decide)) (by decide)
  have e : f = fun j => z_tc.getD j 0 := by
    first
    | exact e2.symm.trans h
    | exact e2.trans h
  rw [e] at e1
  exact e1
