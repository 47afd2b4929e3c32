/-! twisted: all benches, the class -/
/-- the agenda in a grown store -/
theorem z_ag.ke {T T1 : List zK} {M M1 : zH} {p : Int32} {b b2 N sa q t m pr en : Nat} {B : Nat → Nat} {S : Nat → Int32} {A : Int32} {rs : List Nat} (h : z_ag T M p b b2 N sa q t m pr en B S A) (hW : z_W M T) (hp : ∀ (a : Nat) (κ : zK), T[a]? = some κ → T1[a]? = some κ) (hb1 : z_blk T1 M1) (ke : z_ke T rs M M1) (hr : ((z_agf ++ z_agr ++ [10, 11, 1300]).all fun x => !rs.elem x) = true) : z_ag T1 M1 p b b2 N sa q t m pr en B S A := by
  obtain ⟨⟨h1, h2, h3, h4, h5⟩, ⟨o1, o2, o3, o4⟩, ⟨hsa, ksa, hSS⟩, hA, hm, hbk⟩ := h
  have n0 := z_nin hr
  have sub : ∀ l : List Nat, (l.all fun x => (z_agf ++ z_agr ++ [10, 11, 1300]).elem x) = true → (l.all fun x => !rs.elem x) = true := fun l hl => List.all_eq_true.mpr fun x hx => List.all_eq_true.mp hr x (List.elem_iff.mp (List.all_eq_true.mp hl x hx))
  have k10 := hW.k (k := 10) (κ := .inr (10, 2, 8, 9, 0)) rfl (by decide)
  have k11 := hW.k (k := 11) (κ := .inr (11, 2, 8, 5, 0)) rfl (by decide)
  refine ⟨⟨?_, hp _ _ h2, ke.f h2 (n0 _ rfl) h3, h4.ke hp ke (sub _ rfl), h5.ke hW ke (sub _ rfl)⟩, ⟨?_, hp _ _ o2, ke.f o2 (n0 _ rfl) o3, o4.k3 hbk hW o2 ke⟩, ⟨ke.f h4.1 (n0 _ rfl) hsa, hp _ _ ksa, fun k hk => (congrFun (ke.a ksa (n0 _ rfl)) k).trans (hSS k hk)⟩, hA, hm, hb1⟩
  · rw [ke.o k10 (n0 _ rfl)]
    exact h1
  · rw [ke.o k11 (n0 _ rfl)]
    exact o1
theorem z_wyK.ke {T T1 : List zK} {M M1 : zH} {p : Int32} {w c : Nat} {sh ch : Int32} {rs : List Nat} (h : z_wyK T M p w c sh ch) (hW : z_W M T) (hp : ∀ (a : Nat) (κ : zK), T[a]? = some κ → T1[a]? = some κ) (ke : z_ke T rs M M1) (hr : (([12] : List Nat).all fun x => !rs.elem x) = true) (hw : ∀ x ∈ rs, x < 1400) : z_wyK T1 M1 p w c sh ch := by
  obtain ⟨hc, ow, kw, f1, f2⟩ := h
  have n0 := z_nin hr
  have k12 := hW.k (k := 12) (κ := .inr (12, 3, 20, 0, 0)) rfl (by decide)
  have hn : ∀ k, k < 4 → ¬ (1000 + 100 * c + k) ∈ rs := fun k hk hm => by
    have := hw _ hm
    omega
  refine ⟨hc, ?_, hp _ _ kw, ke.f kw (hn 1 (by decide)) f1, ke.f kw (hn 2 (by decide)) f2⟩
  rw [ke.o k12 (n0 _ rfl)]
  exact ow
