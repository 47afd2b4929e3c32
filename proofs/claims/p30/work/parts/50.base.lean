/-! what serves any relation of both sides -/
def z_inv (T : List zK) (M : zH) : Prop := z_GG T M ∧ z_GL M ∧ z_G4 M ∧ z_F M 4 5 = z_F M 19 21
def z_dj (p rs : List Nat) : Bool := p.all fun x => !rs.elem x
theorem z_djn {p rs : List Nat} (h : z_dj p rs = true) : ∀ x ∈ p, ¬ x ∈ rs := fun x hx hm => by
  have h1 := List.all_eq_true.mp h x hx
  rw [List.elem_iff.mpr hm] at h1
  cases h1
theorem z_djs {p q rs : List Nat} (h : z_dj p rs = true) (hs : (q.all fun x => p.elem x) = true) : z_dj q rs = true := by
  refine List.all_eq_true.mpr fun x hx => List.all_eq_true.mp h x (List.elem_iff.mp (List.all_eq_true.mp hs x hx))
theorem z_twoG {I : zH → Prop} {d j k : Nat} {L1 L2 : zL} {M : zH} {A B : Option Value → Prop} {C : Option Value → Option Value → Prop}
    (h1 : z_ev d j 0 L1 [] M fun v M1 => A v ∧ ((M1.length = M.length ∧ z_pot M1 = z_pot M) ∨ (M1.length ≤ M.length + 1171 ∧ z_szr M1 ≤ z_szr M + 14000)) ∧ z_ev d k 0 L2 [] M1 fun v2 M2 => B v2 ∧ C v v2 ∧ I M2 ∧ M2.length = M1.length ∧ z_pot M2 = z_pot M1) :
    z_ev d j 0 L1 [] M fun v M1 => A v ∧ z_ev d k 0 L2 [] M1 fun v2 M2 => B v2 ∧ C v v2 ∧ I M2 ∧ M2.length ≤ M.length + 1171 ∧ z_szr M2 ≤ z_szr M + 14000 := by
  refine h1.grow.mono fun v M1 ⟨⟨c1, c3, c4⟩, hg, _⟩ => ⟨c1, c4.grow.mono fun v2 M2 ⟨⟨b1, b2, b3, b4, b5⟩, hg2, _⟩ => ⟨b1, b2, b3, ?_⟩⟩
  have e2 := z_szg hg2 b4
  unfold z_szr at c3 ⊢
  rcases c3 with ⟨c3, c5⟩ | ⟨c3, c5⟩
  · have e1 := z_szg hg c3
    exact ⟨by omega, by omega⟩
  · exact ⟨by omega, by omega⟩
theorem z_ro2 {p q rs : List Nat} {x : Nat} (h : z_dj (p ++ q ++ [x]) rs = true) : (!rs.elem x) = true := List.all_eq_true.mp h x (List.mem_append_right _ (List.mem_singleton.mpr rfl))
theorem z_dja {p q rs : List Nat} (h : z_dj (p ++ q) rs = true) : z_dj p rs = true ∧ z_dj q rs = true := by
  unfold z_dj at h ⊢
  rw [List.all_append, Bool.and_eq_true] at h
  exact h
theorem z_upds {f g : Nat → Int32} {k : Nat} {v : Int32} (h : f = upd g k v) : f k = v := by
  rw [h]
  show (if k = k then v else g k) = v
  exact if_pos rfl
def z_Fv (M : zH) (a k : Nat) : Int32 := match z_F M a k with
  | some (.int x) => x
  | _ => 0
theorem z_Fv.of {M : zH} {a k : Nat} {x : Int32} (h : z_F M a k = some (.int x)) : z_Fv M a k = x := by
  unfold z_Fv
  rw [h]
