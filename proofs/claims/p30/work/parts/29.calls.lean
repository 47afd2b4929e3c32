/-! what stands between two calls -/
def z_I (M : zH) : Prop := ∃ T, z_GG T M ∧ z_GL M ∧ z_G4 M ∧ z_F M 4 5 = z_F M 19 21
def z_prt : List Nat := [1003, 1005, 10, 11, 12, 1300, 23, 24, 31, 2213, 2221]
theorem z_kee {M M1 : zH} {T : List zK} {rs : List Nat} (h : z_GG T M ∧ z_GL M ∧ z_G4 M ∧ z_F M 4 5 = z_F M 19 21) (hX : z_X T rs M M1) (hr : (z_prt.all fun x => !rs.elem x) = true) : z_GG T M1 ∧ z_GL M1 ∧ z_G4 M1 ∧ z_F M1 4 5 = z_F M1 19 21 := by
  have nr : ∀ x ∈ z_prt, ¬ x ∈ rs := fun x hx hm => by
    have h1 := List.all_eq_true.mp hr x hx
    rw [List.elem_iff.mpr hm] at h1
    cases h1
  have k4 := hX.1.k (k := 4) (κ := .inl (0, 0, 0, 0, 0)) rfl (by decide)
  have k19 := hX.1.k (k := 19) (κ := .inl (12, 0, 0, 0, 0)) rfl (by decide)
  refine ⟨h.1.go hX ⟨nr _ (by decide), nr _ (by decide), nr _ (by decide), nr _ (by decide), nr _ (by decide), nr _ (by decide)⟩, h.2.1.go hX ⟨nr _ (by decide), nr _ (by decide)⟩, h.2.2.1.go hX ⟨nr _ (by decide), nr _ (by decide)⟩, ?_⟩
  rw [hX.2.1 4 0 0 0 0 0 5 k4 (nr _ (by decide)), hX.2.1 19 12 0 0 0 0 21 k19 (nr _ (by decide))]
  exact h.2.2.2
theorem z_poth (M : zH) : z_pot M = (match z_F M 4 12 with | some .null => 16400 | _ => 0) := by
  unfold z_pot z_F
  match M[(4 : Nat)]? with
  | some (.inr (_, fs)) => rfl
  | some (.inl _) => rfl
  | none => rfl
theorem z_potF {M M1 : zH} (h : z_F M1 4 12 = z_F M 4 12) : z_pot M1 = z_pot M := by rw [z_poth, z_poth, h]
theorem z_kep {M M1 : zH} {T : List zK} {rs : List Nat} (hX : z_X T rs M M1) (hr : (!rs.elem 1012) = true) : z_pot M1 = z_pot M := by
  have nr : ¬ 1012 ∈ rs := fun hm => by
    rw [List.elem_iff.mpr hm] at hr
    cases hr
  have k4 := hX.1.k (k := 4) (κ := .inl (0, 0, 0, 0, 0)) rfl (by decide)
  exact z_potF (hX.2.1 4 0 0 0 0 0 12 k4 nr)
/-- what is made leaves the invariant -/
theorem z_new4 {M M1 : zH} {T T1 : List zK} (h : z_GG T M ∧ z_GL M ∧ z_G4 M ∧ z_F M 4 5 = z_F M 19 21) (hs : z_same T M M1) (hW : z_W M1 T1) : z_GG T1 M1 ∧ z_GL M1 ∧ z_G4 M1 ∧ z_F M1 4 5 = z_F M1 19 21 := by
  have h0 := h.1.1
  have k4 := h0.k (k := 4) (κ := .inl (0, 0, 0, 0, 0)) rfl (by decide)
  have k19 := h0.k (k := 19) (κ := .inl (12, 0, 0, 0, 0)) rfl (by decide)
  have k23 := h0.k (k := 23) (κ := z_af 23 80) rfl (by decide)
  have k24 := h0.k (k := 24) (κ := z_ai 24 8 0 10) rfl (by decide)
  have k31 := h0.k (k := 31) (κ := z_ai 31 8 0 1024) rfl (by decide)
  refine ⟨h.1.new hs hW, ?_, ?_, ?_⟩
  · unfold z_GL
    rw [hs.a k23 (by decide), hs.a k24 (by decide)]
    exact h.2.1
  · unfold z_G4
    rw [hs.f k19 (by decide), hs.a k31 (by decide)]
    exact h.2.2.1
  · rw [hs.f k4 (by decide), hs.f k19 (by decide)]
    exact h.2.2.2
theorem z_enai {d j pc N k : Nat} {L : zL} {r : zS} {M : zH} {K : Option Value → zH → Prop} {n : Int32} (hd : decode (z_b j) pc = .ok (.newarray .int, 2)) (hn : ¬ (n < 0 ∨ 1000000 < n.toNatClampNeg)) (hk : n.toNatClampNeg = k) (hN : M.length = N) (kk : z_ev d j (pc + 2) L (.ref N :: r) (M ++ [.inl (0, k, .inl fun _ => 0)]) K) : z_ev d j pc L (.int n :: r) M K :=
  z_e2 hd rfl rfl rfl (by subst hN; subst hk; exact if_neg hn) kk
theorem z_enal {d j pc N k : Nat} {L : zL} {r : zS} {M : zH} {K : Option Value → zH → Prop} {n : Int32} (hd : decode (z_b j) pc = .ok (.newarray .long, 2)) (hn : ¬ (n < 0 ∨ 1000000 < n.toNatClampNeg)) (hk : n.toNatClampNeg = k) (hN : M.length = N) (kk : z_ev d j (pc + 2) L (.ref N :: r) (M ++ [.inl (1, k, .inr (.inl fun _ => 0))]) K) : z_ev d j pc L (.int n :: r) M K :=
  z_e2 hd rfl rfl rfl (by subst hN; subst hk; exact if_neg hn) kk
theorem z_szg {M M1 : zH} (h : z_grow M M1) (hl : M1.length = M.length) : z_sz M1 = z_sz M := by
  unfold z_sz
  congr 1
  apply List.ext_getElem?
  intro i
  rw [List.getElem?_map, List.getElem?_map]
  by_cases hi : i < M.length
  · obtain ⟨e1, g1, g2, -⟩ := h i M[i] (List.getElem?_eq_getElem hi)
    rw [g1, List.getElem?_eq_getElem hi]
    show some (z_cz e1) = some (z_cz M[i])
    have : ∀ a b : zE, z_kd a = z_kd b → z_cz a = z_cz b := fun a b hab => by
      match a, b, hab with
      | .inl (_, n, _), .inl (_, n2, _), hab => cases hab; rfl
      | .inr (_, f), .inr (_, f2), hab =>
        have h1 := Prod.mk.inj (Sum.inr.inj hab)
        unfold z_cz
        simp only [h1.1, h1.2]
    rw [this _ _ g2]
  · rw [List.getElem?_eq_none (by omega), List.getElem?_eq_none (by omega)]
