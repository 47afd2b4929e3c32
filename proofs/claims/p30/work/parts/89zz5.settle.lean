/-! the reference at one of all benches -/
def y_TN (T : List zK) (M : zH) (a q t m pr en n : Nat) (B F : Nat → Nat) (S : Nat → Int32) (A : Int32) : Prop := z_W M T ∧ (∃ av : Int32, z_F M 19 29 = some (.int av) ∧ av.toInt = (a : Int) ∧ a < 8) ∧ (∃ sv : Int32, z_F M 19 30 = some (.int sv) ∧ sv.toInt = (n : Int) ∧ n ≤ 5) ∧ y_AGO M a q t m pr en B ∧ (∀ k, k < m → z_Ar M 30 (1024 * a + k) = S k) ∧ A.toInt = ((2 ^ q : Nat) : Int) - 1 ∧ (1 ≤ q ∧ q ≤ 10) ∧ ∀ j, j < n → (z_Ar M 43 j).toInt = (F j : Int) ∧ F j < m
theorem y_TN.ke {T : List zK} {M M1 : zH} {a q t m pr en n : Nat} {B F : Nat → Nat} {S : Nat → Int32} {A : Int32} {rs : List Nat} (h : y_TN T M a q t m pr en n B F S A) (X : z_X T rs M M1) (hr : ((z_agr ++ [2229, 2230, 30, 43]).all fun x => !rs.elem x) = true) : y_TN T M1 a q t m pr en n B F S A := by
  obtain ⟨hW, ⟨av, h1, h2⟩, ⟨sv, h3, h4⟩, h5, h6, h7, h8, h9⟩ := h
  have n0 := z_nin hr
  have k19 : T[19]? = some (.inl (12, 0, 0, 0, 0)) := hW.k rfl (by decide)
  have e30 : z_Ar M1 30 = z_Ar M 30 := X.2.a (hW.k (k := 30) rfl (by decide)) (n0 _ rfl)
  have e43 : z_Ar M1 43 = z_Ar M 43 := X.2.a (hW.k (k := 43) rfl (by decide)) (n0 _ rfl)
  refine ⟨X.1, ⟨av, X.2.f k19 (n0 _ rfl) h1, h2⟩, ⟨sv, X.2.f k19 (n0 _ rfl) h3, h4⟩, h5.ke hW X.2 (List.all_eq_true.mpr fun x hx => List.all_eq_true.mp hr x (List.mem_append_left _ hx)), ?_, h7, h8, ?_⟩
  · rw [e30]
    exact h6
  · rw [e43]
    exact h9
