/-! the reference reads a tie: what its helpers say, how its parts go together -/
def y_ok (M : zH) : Prop := (z_Fv M 19 26).toInt < 0
def y_at (M : zH) : Nat := (z_Fv M 19 24).toInt.toNat
def y_op (M : zH) : Int := (z_Fv M 19 27).toInt
def y_rd (M : zH) : Nat := (z_Fv M 19 22).toInt.toNat
/-- what is read: bytes, length, questions' numbers, the set -/
def y_TR (M : zH) (bb : Nat → Int) (nn : Nat) (nu : Int → Int) (S : Nat) : Prop := (z_Fv M 19 25).toInt = (nn : Int) ∧ nn ≤ 160 ∧ (∀ k, k < nn → bb k = if (z_Fv M 19 23).toInt = 0 then (z_Ar M 21 (160 * y_rd M + k)).toInt else (z_Ar M 20 k).toInt) ∧ (∀ q : Nat, (q : Int) < (z_Ar M 24 (y_rd M)).toInt → nu (z_Ar M 23 (10 * y_rd M + q)).toInt = (q : Int)) ∧ (∀ c, 0 ≤ nu c → ∃ q : Nat, (q : Int) < (z_Ar M 24 (y_rd M)).toInt ∧ (z_Ar M 23 (10 * y_rd M + q)).toInt = c) ∧ (∀ c, c < 97 ∨ 107 ≤ c → nu c < 0) ∧ (z_Fv M 19 28).toInt = (S : Int)
def y_by (bb : Nat → Int) (nn : Nat) (M : zH) : Int := if y_at M < nn then bb (y_at M) else 0
def y_bv (x : Int) (f : Nat → Nat) (S : Nat) : Prop := x = (f S : Int) ∧ f S ≤ 1
def y_PC (nn : Nat) (M0 M1 : zH) (R : zPR) (W : (Nat → Nat) → Prop) : Prop := (¬ y_ok M0 → ¬ y_ok M1) ∧ (y_ok M0 → y_at M0 ≤ nn → 0 ≤ y_op M0 → y_op M0 ≤ 6 → (R = none ∧ ¬ y_ok M1) ∨ ∃ q f, R = some (q, f) ∧ y_ok M1 ∧ y_at M1 = q ∧ y_op M1 = y_op M0 ∧ W f)
def y_PS (bb : Nat → Int) (nn : Nat) (M0 M1 : zH) (c x : Int) : Prop := (x = 1 ∧ y_ok M0 ∧ y_ok M1 ∧ y_at M0 < nn ∧ bb (y_at M0) = c ∧ y_at M1 = y_at M0 + 1 ∧ y_op M1 = y_op M0) ∨ (x = 0 ∧ M1 = M0 ∧ ¬ (y_ok M0 ∧ y_at M0 < nn ∧ bb (y_at M0) = c))
def y_OP (M0 M1 : zH) (x : Int) : Prop := (y_op M0 = 6 ∧ x = 0 ∧ ¬ y_ok M1) ∨ (y_op M0 ≠ 6 ∧ x = 1 ∧ (y_ok M1 ↔ y_ok M0) ∧ y_at M1 = y_at M0 + 1 ∧ (0 ≤ y_op M0 → y_op M0 ≤ 6 → y_op M1 = y_op M0 + 1))
theorem y_TR.go {M M1 : zH} {T : List zK} {rs : List Nat} {bb : Nat → Int} {nn : Nat} {nu : Int → Int} {S : Nat} (h : y_TR M bb nn nu S) {M' : zH} (hW : z_W M' T) (hX : z_X T rs M M1) (hr : z_dj [20, 21, 23, 24, 2222, 2223, 2225, 2228] rs = true) : y_TR M1 bb nn nu S := by
  have nr := z_djn hr
  have k19 : T[19]? = some (.inl (12, 0, 0, 0, 0)) := hW.k rfl (by decide)
  have k20 := hW.k (k := 20) (κ := z_af 20 160) rfl (by decide)
  have k21 := hW.k (k := 21) (κ := z_af 21 1280) rfl (by decide)
  have k23 := hW.k (k := 23) (κ := z_af 23 80) rfl (by decide)
  have k24 := hW.k (k := 24) (κ := z_ai 24 8 0 10) rfl (by decide)
  have e22 : z_Fv M1 19 22 = z_Fv M 19 22 := z_FvK (hX.2.1 19 12 0 0 0 0 22 k19 (nr _ (by decide)))
  have e23 : z_Fv M1 19 23 = z_Fv M 19 23 := z_FvK (hX.2.1 19 12 0 0 0 0 23 k19 (nr _ (by decide)))
  have e25 : z_Fv M1 19 25 = z_Fv M 19 25 := z_FvK (hX.2.1 19 12 0 0 0 0 25 k19 (nr _ (by decide)))
  have e28 : z_Fv M1 19 28 = z_Fv M 19 28 := z_FvK (hX.2.1 19 12 0 0 0 0 28 k19 (nr _ (by decide)))
  have er : y_rd M1 = y_rd M := by unfold y_rd; rw [e22]
  unfold y_TR
  rw [e23, e25, e28, er, hX.2.a k20 (nr _ (by decide)), hX.2.a k21 (nr _ (by decide)), hX.2.a k23 (nr _ (by decide)), hX.2.a k24 (nr _ (by decide))]
  exact h
theorem y_atF {M : zH} {x : Int32} (h : z_F M 19 24 = some (.int x)) : y_at M = x.toInt.toNat := by unfold y_at; rw [z_Fv.of h]
theorem y_opF {M : zH} {x : Int32} (h : z_F M 19 27 = some (.int x)) : y_op M = x.toInt := by unfold y_op; rw [z_Fv.of h]
theorem y_okY {M : zH} {x : Int32} (h : z_F M 19 26 = some (.int x)) (h0 : x.toInt < 0) : y_ok M := by unfold y_ok; rw [z_Fv.of h]; exact h0
theorem y_okN {M : zH} {x : Int32} (h : z_F M 19 26 = some (.int x)) (h0 : 0 ≤ x.toInt) : ¬ y_ok M := by unfold y_ok; rw [z_Fv.of h]; omega
theorem y_okK {M M1 : zH} (h : z_F M1 19 26 = z_F M 19 26) : y_ok M1 ↔ y_ok M := by unfold y_ok; rw [z_FvK h]
theorem y_opK {M M1 : zH} (h : z_F M1 19 27 = z_F M 19 27) : y_op M1 = y_op M := by unfold y_op; rw [z_FvK h]
theorem y_atK {M M1 : zH} (h : z_F M1 19 24 = z_F M 19 24) : y_at M1 = y_at M := by unfold y_at; rw [z_FvK h]
theorem y_len {M : zH} {bb : Nat → Int} {nn : Nat} {nu : Int → Int} {S : Nat} (h : y_TR M bb nn nu S) {x : Int32} (hl : z_F M 19 25 = some (.int x)) : x.toInt = (nn : Int) := by
  have e := h.1
  rw [z_Fv.of hl] at e
  exact e
section ZY1
variable {bb : Nat → Int} {nn : Nat} {nu : Int → Int} {S : Nat} {M M0 M1 M2 M3 M4 M5 : zH}
theorem y_byA {a l : Int32} (hT : y_TR M bb nn nu S) (ha : z_F M 19 24 = some (.int a)) (hl : z_F M 19 25 = some (.int l)) (h : l.toInt ≤ a.toInt) : (0 : Int) = y_by bb nn M := by
  have e := y_len hT hl
  have e2 : ¬ (y_at M < nn) := by rw [y_atF ha]; omega
  unfold y_by
  rw [if_neg e2]
theorem y_byB {a l t y : Int32} (hT : y_TR M bb nn nu S) (ha : z_F M 19 24 = some (.int a)) (hl : z_F M 19 25 = some (.int l)) (h : a.toInt < l.toInt ∧ 0 ≤ a.toInt) (ht : z_F M 19 23 = some (.int t)) (h0 : t.toInt ≠ 0) (hb : z_Ar M 20 a.toNatClampNeg = y) : y.toInt = y_by bb nn M := by
  have e := y_len hT hl
  have e2 : y_at M < nn := by rw [y_atF ha]; omega
  have e3 := hT.2.2.1 _ e2
  have e4 : ¬ ((z_Fv M 19 23).toInt = 0) := by rw [z_Fv.of ht]; exact h0
  have hb : z_Ar M 20 a.toInt.toNat = y := hb
  unfold y_by
  rw [if_pos e2, e3, if_neg e4, y_atF ha, hb]
theorem y_byC {a l t r x y : Int32} (hT : y_TR M bb nn nu S) (ha : z_F M 19 24 = some (.int a)) (hl : z_F M 19 25 = some (.int l)) (h : a.toInt < l.toInt ∧ 0 ≤ a.toInt) (ht : z_F M 19 23 = some (.int t)) (h0 : t.toInt = 0) (hr : z_F M 19 22 = some (.int r)) (hx : x.toInt = 160 * r.toInt + a.toInt ∧ 0 ≤ r.toInt) (hb : z_Ar M 21 x.toNatClampNeg = y) : y.toInt = y_by bb nn M := by
  have e := y_len hT hl
  have e2 : y_at M < nn := by rw [y_atF ha]; omega
  have e3 := hT.2.2.1 _ e2
  have e4 : (z_Fv M 19 23).toInt = 0 := by rw [z_Fv.of ht]; exact h0
  have hb : z_Ar M 21 x.toInt.toNat = y := hb
  have e5 : 160 * y_rd M + y_at M = x.toInt.toNat := by
    unfold y_rd
    rw [y_atF ha, z_Fv.of hr]
    omega
  unfold y_by
  rw [if_pos e2, e3, if_pos e4, e5, hb]
theorem y_PSa {c : Int} {x1 : Int32} (h : z_F M 19 26 = some (.int x1)) (h0 : 0 ≤ x1.toInt) : y_PS bb nn M M c 0 := Or.inr ⟨rfl, rfl, fun ⟨a, _⟩ => y_okN h h0 a⟩
theorem y_PSc {c x : Int} (hb : x = y_by bb nn M) (h : x ≠ c) : y_PS bb nn M M c 0 := Or.inr ⟨rfl, rfl, fun ⟨_, a, e⟩ => by
  unfold y_by at hb
  rw [if_pos a] at hb
  exact h (hb.trans e)⟩
theorem y_PSd {c x : Int} {x1 a a2 : Int32} (hf : z_F M 19 26 = some (.int x1)) (h0 : x1.toInt < 0) (hb : x = y_by bb nn M) (h : x = c ∧ 0 < c) (ha : z_F M 19 24 = some (.int a)) (hn : z_F M1 19 24 = some (.int a2)) (ha2 : a2.toInt = a.toInt + 1 ∧ 0 ≤ a.toInt) (hf1 : z_F M1 19 26 = z_F M 19 26) (ho : z_F M1 19 27 = z_F M 19 27) : y_PS bb nn M M1 c 1 := by
  unfold y_by at hb
  by_cases e : y_at M < nn
  · rw [if_pos e] at hb
    refine Or.inl ⟨rfl, y_okY hf h0, (y_okK hf1).mpr (y_okY hf h0), e, hb.symm.trans h.1, ?_, y_opK ho⟩
    rw [y_atF ha, y_atF hn]
    omega
  · rw [if_neg e] at hb
    omega
theorem y_PS0 {c x : Int} (h : y_PS bb nn M0 M1 c x) (hx : x = 0) : M1 = M0 ∧ ¬ (y_ok M0 ∧ y_at M0 < nn ∧ bb (y_at M0) = c) := h.elim (fun a => absurd (a.1.symm.trans hx) (by decide)) (fun a => a.2)
theorem y_PS1 {c x : Int} (h : y_PS bb nn M0 M1 c x) (hx : x ≠ 0) : y_ok M0 ∧ y_ok M1 ∧ y_at M0 < nn ∧ bb (y_at M0) = c ∧ y_at M1 = y_at M0 + 1 ∧ y_op M1 = y_op M0 := h.elim (fun a => a.2) (fun a => absurd a.1 hx)
theorem y_OPn {o : Int32} {x : Int} (ho : z_F M 19 27 = some (.int o)) (h : o.toInt = 6) (hF : ¬ y_ok M1) (hx : x = 0) : y_OP M M1 x := Or.inl ⟨(y_opF ho).trans h, hx, hF⟩
theorem y_OPy {o o2 a a2 : Int32} (ho : z_F M 19 27 = some (.int o)) (h : o.toInt ≠ 6) (hn : z_F M1 19 27 = some (.int o2)) (e : o2 = o + 1) (ha : z_F M 19 24 = some (.int a)) (hn2 : z_F M1 19 24 = some (.int a2)) (ha2 : a2.toInt = a.toInt + 1 ∧ 0 ≤ a.toInt) (hf : z_F M1 19 26 = z_F M 19 26) : y_OP M M1 1 := by
  refine Or.inr ⟨by rw [y_opF ho]; exact h, rfl, y_okK hf, ?_, fun h1 h2 => ?_⟩
  · rw [y_atF ha, y_atF hn2]; omega
  · rw [y_opF ho] at h1 h2 ⊢
    rw [y_opF hn, e]
    exact z_pAdd rfl rfl (by omega) (by omega)
theorem y_OP0 {x : Int} (h : y_OP M0 M1 x) (hx : x = 0) : y_op M0 = 6 ∧ ¬ y_ok M1 := h.elim (fun a => ⟨a.1, a.2.2⟩) (fun a => absurd (a.2.1.symm.trans hx) (by decide))
theorem y_OP1 {x : Int} (h : y_OP M0 M1 x) (hx : x ≠ 0) : y_op M0 ≠ 6 ∧ (y_ok M1 ↔ y_ok M0) ∧ y_at M1 = y_at M0 + 1 ∧ (0 ≤ y_op M0 → y_op M0 ≤ 6 → y_op M1 = y_op M0 + 1) := h.elim (fun a => absurd a.2.1 hx) (fun a => ⟨a.1, a.2.2⟩)
/-- opened again less one -/
theorem y_dn {o o2 : Int32} (ho : z_F M 19 27 = some (.int o)) (hn : z_F M1 19 27 = some (.int o2)) (e : o2 = o - 1) (h : 1 ≤ y_op M ∧ y_op M ≤ 7) : y_op M1 = y_op M - 1 := by
  rw [y_opF ho] at h ⊢
  rw [y_opF hn, e]
  exact z_pSub rfl rfl (by omega) (by omega)
/-- a question's number -/
theorem y_quY {r c x : Int32} (hT : y_TR M bb nn nu S) (hr : z_F M 19 22 = some (.int r)) (h0 : 0 ≤ r.toInt) (hx : 0 ≤ x.toInt) (h : x.toInt < (z_Ar M 24 r.toNatClampNeg).toInt ∧ (z_Ar M 23 (10 * r.toInt.toNat + x.toInt.toNat)) = c) : nu c.toInt = x.toInt := by
  have er : y_rd M = r.toInt.toNat := by unfold y_rd; rw [z_Fv.of hr]
  have h1 : x.toInt < (z_Ar M 24 r.toInt.toNat).toInt := h.1
  have e := hT.2.2.2.1 x.toInt.toNat (by rw [er]; omega)
  rw [er, h.2] at e
  omega
theorem y_quN {r c : Int32} (hT : y_TR M bb nn nu S) (hr : z_F M 19 22 = some (.int r)) (h : z_NQ M r c (z_Ar M 24 r.toNatClampNeg).toInt) : nu c.toInt < 0 := by
  have er : y_rd M = r.toNatClampNeg := by unfold y_rd; rw [z_Fv.of hr]; rfl
  by_cases c0 : 0 ≤ nu c.toInt
  · obtain ⟨q, h1, h2⟩ := hT.2.2.2.2.1 _ c0
    rw [er] at h1 h2
    exact absurd h2 (h q h1)
  · omega
theorem y_let {f0 f : Nat → Int32} {i : Nat} {x v p : Int32} (e : f = f0) (h : f x.toNatClampNeg = v) (hv : v.toInt = p.toInt) (hx : x.toInt.toNat = i) : f0 i = p := by
  have h : f x.toInt.toNat = v := h
  rw [hx, e] at h
  rw [h]
  exact Int32.toInt_inj.mp hv
/-- one: wrong from the start -/
theorem y_oneA {fa : Int32} {W : (Nat → Nat) → Prop} {R : zPR} (hf : z_F M 19 26 = some (.int fa)) (h : 0 ≤ fa.toInt) : y_PC nn M M R W := ⟨fun a => a, fun a => absurd a (y_okN hf h)⟩
theorem y_byp {x : Int} (hb : x = y_by bb nn M) (h : x ≠ 0) : y_at M < nn ∧ bb (y_at M) = x := by
  unfold y_by at hb
  by_cases e : y_at M < nn
  · rw [if_pos e] at hb
    exact ⟨e, hb.symm⟩
  · rw [if_neg e] at hb
    exact absurd hb h
/-- ! ( digit, where six are open -/
theorem y_oneF {x y : Int} {W : (Nat → Nat) → Prop} (hT : y_TR M0 bb nn nu S) (hb : x = y_by bb nn M0) (hx : x ≠ 0 ∧ x < 97) (hO : y_OP M0 M1 y) (hy : y = 0) : y_PC nn M0 M1 (z_one bb nn nu (6 - (y_op M0).toNat) (y_at M0)) W := by
  obtain ⟨h1, h2⟩ := y_OP0 hO hy
  obtain ⟨h3, h4⟩ := y_byp hb hx.1
  refine ⟨fun _ => h2, fun _ _ _ _ => Or.inl ⟨?_, h2⟩⟩
  have hd : 6 - (y_op M0).toNat = 0 := by omega
  rw [hd]
  exact z_one_full (fun a => by rw [h4] at a; have := hT.2.2.2.2.2.1 x (Or.inl hx.2); omega)
/-- ! -/
theorem y_oneN {x y v w : Int} {o o2 : Int32} (hT : y_TR M0 bb nn nu S) (hb : x = y_by bb nn M0) (hx : x = 33) (hO : y_OP M0 M1 y) (hy : y ≠ 0) (hS : y_PC nn M1 M2 (z_one bb nn nu (6 - (y_op M1).toNat) (y_at M1)) (fun f => y_bv v f S)) (ho : z_F M2 19 27 = some (.int o)) (hn : z_F M3 19 27 = some (.int o2)) (e : o2 = o - 1) (hf : z_F M3 19 26 = z_F M2 19 26) (ha : z_F M3 19 24 = z_F M2 19 24) (hw : (v = 0 ∧ w = 1) ∨ (v ≠ 0 ∧ w = 0)) : y_PC nn M0 M3 (z_one bb nn nu (6 - (y_op M0).toNat) (y_at M0)) (fun f => y_bv w f S) := by
  obtain ⟨h1, h2, h3, h4⟩ := y_OP1 hO hy
  obtain ⟨h5, h6⟩ := y_byp hb (by omega)
  refine ⟨fun a b => hS.1 (fun c => a (h2.mp c)) ((y_okK hf).mp b), fun k0 k1 k2 k3 => ?_⟩
  have h7 := h4 k2 k3
  have hd : 6 - (y_op M0).toNat = (6 - (y_op M1).toNat) + 1 := by omega
  have hq : ¬ (y_at M0 < nn ∧ 0 ≤ nu (bb (y_at M0))) := fun a => by rw [h6] at a; have := hT.2.2.2.2.2.1 x (Or.inl (by omega)); omega
  rw [hd, z_one_not hq ⟨h5, h6.trans hx⟩, ← h3]
  rcases hS.2 (h2.mpr k0) (by omega) (by omega) (by omega) with ⟨a1, a2⟩ | ⟨q, f, a1, a2, a3, a4, a5⟩
  · rw [a1]
    exact Or.inl ⟨rfl, fun c => a2 ((y_okK hf).mp c)⟩
  · rw [a1]
    refine Or.inr ⟨q, fun s => 1 - f s, rfl, (y_okK hf).mpr a2, (y_atK ha).trans a3, ?_, ?_⟩
    · rw [y_dn ho hn e (by omega)]; omega
    · obtain ⟨b1, b2⟩ := a5
      show w = ((1 - f S : Nat) : Int) ∧ 1 - f S ≤ 1
      omega
/-- ( ) -/
theorem y_oneP {x y v t : Int} {o o2 : Int32} (hT : y_TR M0 bb nn nu S) (hb : x = y_by bb nn M0) (hx : x = 40) (hO : y_OP M0 M1 y) (hy : y ≠ 0) (hS : y_PC nn M1 M2 (z_ti bb nn (z_one bb nn nu (6 - (y_op M1).toNat)) (y_at M1)) (fun f => y_bv v f S)) (hP : y_PS bb nn M2 M3 41 t) (ht : t ≠ 0) (ho : z_F M3 19 27 = some (.int o)) (hn : z_F M4 19 27 = some (.int o2)) (e : o2 = o - 1) (hf : z_F M4 19 26 = z_F M3 19 26) (ha : z_F M4 19 24 = z_F M3 19 24) : y_PC nn M0 M4 (z_one bb nn nu (6 - (y_op M0).toNat) (y_at M0)) (fun f => y_bv v f S) := by
  obtain ⟨h1, h2, h3, h4⟩ := y_OP1 hO hy
  obtain ⟨h5, h6⟩ := y_byp hb (by omega)
  obtain ⟨p1, p2, p3, p4, p5, p6⟩ := y_PS1 hP ht
  refine ⟨fun a => absurd p1 (hS.1 (fun c => a (h2.mp c))), fun k0 k1 k2 k3 => ?_⟩
  have h7 := h4 k2 k3
  have hd : 6 - (y_op M0).toNat = (6 - (y_op M1).toNat) + 1 := by omega
  have hq : ¬ (y_at M0 < nn ∧ 0 ≤ nu (bb (y_at M0))) := fun a => by rw [h6] at a; have := hT.2.2.2.2.2.1 x (Or.inl (by omega)); omega
  rw [hd, z_one_par hq ⟨h5, h6.trans hx⟩, ← h3]
  rcases hS.2 (h2.mpr k0) (by omega) (by omega) (by omega) with ⟨a1, a2⟩ | ⟨q, f, a1, a2, a3, a4, a5⟩
  · exact absurd p1 a2
  · rw [a1]
    show ((if q < nn ∧ bb q = 41 then some (q + 1, f) else none) = none ∧ _) ∨ ∃ q_1 f_1, (if q < nn ∧ bb q = 41 then some (q + 1, f) else none) = some (q_1, f_1) ∧ _
    rw [a3] at p3 p4 p5
    rw [if_pos ⟨p3, p4⟩]
    refine Or.inr ⟨q + 1, f, rfl, (y_okK hf).mpr p2, (y_atK ha).trans p5, ?_, a5⟩
    rw [y_dn ho hn e (by omega)]
    omega
theorem y_onePf {x y v t : Int} {W : (Nat → Nat) → Prop} (hT : y_TR M0 bb nn nu S) (hb : x = y_by bb nn M0) (hx : x = 40) (hO : y_OP M0 M1 y) (hy : y ≠ 0) (hS : y_PC nn M1 M2 (z_ti bb nn (z_one bb nn nu (6 - (y_op M1).toNat)) (y_at M1)) (fun f => y_bv v f S)) (hP : y_PS bb nn M2 M3 41 t) (ht : t = 0) (hF : ¬ y_ok M4) : y_PC nn M0 M4 (z_one bb nn nu (6 - (y_op M0).toNat) (y_at M0)) W := by
  obtain ⟨h1, h2, h3, h4⟩ := y_OP1 hO hy
  obtain ⟨h5, h6⟩ := y_byp hb (by omega)
  obtain ⟨e1, n1⟩ := y_PS0 hP ht
  refine ⟨fun _ => hF, fun k0 k1 k2 k3 => Or.inl ⟨?_, hF⟩⟩
  have h7 := h4 k2 k3
  have hd : 6 - (y_op M0).toNat = (6 - (y_op M1).toNat) + 1 := by omega
  have hq : ¬ (y_at M0 < nn ∧ 0 ≤ nu (bb (y_at M0))) := fun a => by rw [h6] at a; have := hT.2.2.2.2.2.1 x (Or.inl (by omega)); omega
  rw [hd, z_one_par hq ⟨h5, h6.trans hx⟩, ← h3]
  rcases hS.2 (h2.mpr k0) (by omega) (by omega) (by omega) with ⟨a1, a2⟩ | ⟨q, f, a1, a2, a3, a4, a5⟩
  · rw [a1]
  · rw [a1]
    show (if q < nn ∧ bb q = 41 then some (q + 1, f) else none) = none
    rw [a3] at n1
    rw [if_neg (fun a => n1 ⟨a2, a.1, a.2⟩)]
/-- k { } -/
def y_lea (bb : Nat → Int) (nn : Nat) (nu : Int → Int) (M0 : zH) (l : Int) : zPR := if y_op M0 = 6 then none else z_lea bb nn (z_one bb nn nu (5 - (y_op M0).toNat)) (y_at M0 + 1) l
theorem y_oneL {x l v : Int} (hT : y_TR M0 bb nn nu S) (hb : x = y_by bb nn M0) (hx : 49 ≤ x ∧ x ≤ 57) (hl : l = x - 48) (hS : y_PC nn M0 M1 (y_lea bb nn nu M0 l) (fun f => y_bv v f S)) : y_PC nn M0 M1 (z_one bb nn nu (6 - (y_op M0).toNat) (y_at M0)) (fun f => y_bv v f S) := by
  obtain ⟨h5, h6⟩ := y_byp hb (by omega)
  have hq : ¬ (y_at M0 < nn ∧ 0 ≤ nu (bb (y_at M0))) := fun a => by rw [h6] at a; have := hT.2.2.2.2.2.1 x (Or.inl (by omega)); omega
  refine ⟨hS.1, fun k0 k1 k2 k3 => ?_⟩
  have h := hS.2 k0 k1 k2 k3
  have e : y_lea bb nn nu M0 l = z_one bb nn nu (6 - (y_op M0).toNat) (y_at M0) := by
    unfold y_lea
    by_cases c : y_op M0 = 6
    · have hd : 6 - (y_op M0).toNat = 0 := by omega
      rw [if_pos c, hd, z_one_full hq]
    · have hd : 6 - (y_op M0).toNat = (5 - (y_op M0).toNat) + 1 := by omega
      rw [if_neg c, hd, z_one_lea2 hq ⟨h5, by omega, by omega⟩, h6, hl]
  rw [e] at h
  exact h
/-- a question, or none -/
theorem y_oneW {x : Int} {W : (Nat → Nat) → Prop} (hb : x = y_by bb nn M0) (hx : x ≠ 33 ∧ x ≠ 40 ∧ (x < 49 ∨ 57 < x)) (hq : nu x < 0) (hF : ¬ y_ok M1) : y_PC nn M0 M1 (z_one bb nn nu (6 - (y_op M0).toNat) (y_at M0)) W := by
  refine ⟨fun _ => hF, fun _ _ _ _ => Or.inl ⟨?_, hF⟩⟩
  unfold y_by at hb
  by_cases e : y_at M0 < nn
  · rw [if_pos e] at hb
    rw [hb] at hx hq
    exact z_one_none _ (fun a => by omega) (fun a => by omega) (fun a => by omega) (fun a => by omega)
  · exact z_one_none _ (fun a => e a.1) (fun a => e a.1) (fun a => e a.1) (fun a => by omega)
theorem y_oneQ {x : Int} {fa a a2 q s r w : Int32} {v : Int} (hT : y_TR M0 bb nn nu S) (hf : z_F M0 19 26 = some (.int fa)) (hf0 : fa.toInt < 0) (hb : x = y_by bb nn M0) (hx : x ≠ 0) (hq : nu x = q.toInt) (hq0 : 0 ≤ q.toInt ∧ q.toInt < 31) (ha : z_F M0 19 24 = some (.int a)) (hn : z_F M1 19 24 = some (.int a2)) (ha2 : a2.toInt = a.toInt + 1 ∧ 0 ≤ a.toInt) (hf1 : z_F M1 19 26 = z_F M0 19 26) (ho : z_F M1 19 27 = z_F M0 19 27) (hs : z_F M1 19 28 = some (.int s)) (hs0 : z_F M1 19 28 = z_F M0 19 28) (hr : r = s >>> (q &&& 31)) (hw : w = r &&& 1) (hv : (w.toInt = 1 ∧ v = 1) ∨ (w.toInt ≠ 1 ∧ v = 0)) : y_PC nn M0 M1 (z_one bb nn nu (6 - (y_op M0).toNat) (y_at M0)) (fun f => y_bv v f S) := by
  obtain ⟨h5, h6⟩ := y_byp hb hx
  refine ⟨fun c => absurd (y_okY hf hf0) c, fun k0 k1 k2 k3 => Or.inr ⟨_, _, z_one_ques _ ⟨h5, by rw [h6, hq]; exact hq0.1⟩, (y_okK hf1).mpr k0, ?_, y_opK ho, ?_⟩⟩
  · rw [y_atF hn, y_atF ha]; omega
  · have e := hT.2.2.2.2.2.2
    rw [z_Fv.of (hs0.symm.trans hs)] at e
    have e1 := z_sbit hr hw (by omega) hq0
    have e2 : s.toInt.toNat = S := by omega
    rw [e2] at e1
    rw [h6, hq]
    show v = ((S / 2 ^ q.toInt.toNat % 2 : Nat) : Int) ∧ S / 2 ^ q.toInt.toNat % 2 ≤ 1
    omega
/-- both -/
def y_BI (bb : Nat → Int) (nn : Nat) (nu : Int → Int) (S : Nat) (M0 M : zH) (x : Int) : Prop := (¬ y_ok M0 → ¬ y_ok M) ∧ (y_ok M0 → y_at M0 ≤ nn → 0 ≤ y_op M0 → y_op M0 ≤ 6 → (z_bo bb nn (z_one bb nn nu (6 - (y_op M0).toNat)) (y_at M0) = none ∧ ¬ y_ok M) ∨ (y_ok M ∧ y_at M ≤ nn ∧ y_op M = y_op M0 ∧ ∃ v, z_bo bb nn (z_one bb nn nu (6 - (y_op M0).toNat)) (y_at M0) = z_blw bb nn (z_one bb nn nu (6 - (y_op M0).toNat)) (y_at M) v ∧ y_bv x v S))
theorem y_BI0 {x : Int} (hS : y_PC nn M0 M1 (z_one bb nn nu (6 - (y_op M0).toNat) (y_at M0)) (fun f => y_bv x f S)) : y_BI bb nn nu S M0 M1 x := by
  refine ⟨hS.1, fun k0 k1 k2 k3 => ?_⟩
  rcases hS.2 k0 k1 k2 k3 with ⟨a1, a2⟩ | ⟨q, f, a1, a2, a3, a4, a5⟩
  · exact Or.inl ⟨by unfold z_bo; rw [a1], a2⟩
  · have hq := z_one_pg _ _ _ _ a1
    refine Or.inr ⟨a2, by omega, a4, f, ?_, a5⟩
    unfold z_bo
    rw [a1, a3]
theorem y_BIs {x t v w : Int} (hI : y_BI bb nn nu S M0 M x) (hP : y_PS bb nn M M1 38 t) (ht : t ≠ 0) (hS : y_PC nn M1 M2 (z_one bb nn nu (6 - (y_op M1).toNat) (y_at M1)) (fun f => y_bv v f S)) (hw : (x ≠ 0 ∧ v ≠ 0 ∧ w = 1) ∨ ((x = 0 ∨ v = 0) ∧ w = 0)) : y_BI bb nn nu S M0 M2 w := by
  obtain ⟨p1, p2, p3, p4, p5, p6⟩ := y_PS1 hP ht
  refine ⟨fun a => absurd p1 (hI.1 a), fun k0 k1 k2 k3 => ?_⟩
  rcases hI.2 k0 k1 k2 k3 with ⟨a1, a2⟩ | ⟨a1, a2, a3, u, a4, a5⟩
  · exact absurd p1 a2
  · rw [z_blw_and (z_one_pg _) ⟨p3, p4⟩, ← p5] at a4
    rw [p6, a3] at hS
    rcases hS.2 p2 (by omega) (by omega) (by omega) with ⟨b1, b2⟩ | ⟨q, f, b1, b2, b3, b4, b5⟩
    · rw [b1] at a4
      exact Or.inl ⟨a4, b2⟩
    · have hq := z_one_pg _ _ _ _ b1
      rw [b1] at a4
      refine Or.inr ⟨b2, by omega, by omega, fun s => u s * f s, by rw [a4, b3], ?_⟩
      obtain ⟨c1, c2⟩ := a5
      obtain ⟨d1, d2⟩ := b5
      show w = ((u S * f S : Nat) : Int) ∧ u S * f S ≤ 1
      have u01 : u S = 0 ∨ u S = 1 := by omega
      have f01 : f S = 0 ∨ f S = 1 := by omega
      rcases u01 with e1 | e1 <;> rcases f01 with e2 | e2 <;> rw [e1] at c1 ⊢ <;> rw [e2] at d1 ⊢ <;> omega
theorem y_BIe {x t : Int} (hI : y_BI bb nn nu S M0 M x) (hP : y_PS bb nn M M1 38 t) (ht : t = 0) : y_PC nn M0 M1 (z_bo bb nn (z_one bb nn nu (6 - (y_op M0).toNat)) (y_at M0)) (fun f => y_bv x f S) := by
  obtain ⟨e1, n1⟩ := y_PS0 hP ht
  subst e1
  refine ⟨hI.1, fun k0 k1 k2 k3 => ?_⟩
  rcases hI.2 k0 k1 k2 k3 with ⟨a1, a2⟩ | ⟨a1, a2, a3, u, a4, a5⟩
  · exact Or.inl ⟨a1, a2⟩
  · exact Or.inr ⟨_, _, a4.trans (z_blw_end (fun a => n1 ⟨a1, a.1, a.2⟩)), a1, rfl, a3, a5⟩
/-- either -/
def y_HI (bb : Nat → Int) (nn : Nat) (nu : Int → Int) (S : Nat) (M0 M : zH) (x : Int) : Prop := (¬ y_ok M0 → ¬ y_ok M) ∧ (y_ok M0 → y_at M0 ≤ nn → 0 ≤ y_op M0 → y_op M0 ≤ 6 → (z_ei bb nn (z_one bb nn nu (6 - (y_op M0).toNat)) (y_at M0) = none ∧ ¬ y_ok M) ∨ (y_ok M ∧ y_at M ≤ nn ∧ y_op M = y_op M0 ∧ ∃ v, z_ei bb nn (z_one bb nn nu (6 - (y_op M0).toNat)) (y_at M0) = z_elw bb nn (z_one bb nn nu (6 - (y_op M0).toNat)) (y_at M) v ∧ y_bv x v S))
theorem y_HI0 {x : Int} (hS : y_PC nn M0 M1 (z_bo bb nn (z_one bb nn nu (6 - (y_op M0).toNat)) (y_at M0)) (fun f => y_bv x f S)) : y_HI bb nn nu S M0 M1 x := by
  refine ⟨hS.1, fun k0 k1 k2 k3 => ?_⟩
  rw [z_ei_split (z_one_pg _)]
  rcases hS.2 k0 k1 k2 k3 with ⟨a1, a2⟩ | ⟨q, f, a1, a2, a3, a4, a5⟩
  · rw [a1]; exact Or.inl ⟨rfl, a2⟩
  · have hq := z_bo_pg (z_one_pg _) _ _ _ a1
    rw [a1]
    exact Or.inr ⟨a2, by omega, a4, f, by rw [a3], a5⟩
theorem y_HIs {x t v w : Int} (hI : y_HI bb nn nu S M0 M x) (hP : y_PS bb nn M M1 124 t) (ht : t ≠ 0) (hS : y_PC nn M1 M2 (z_bo bb nn (z_one bb nn nu (6 - (y_op M1).toNat)) (y_at M1)) (fun f => y_bv v f S)) (hw : ((x ≠ 0 ∨ v ≠ 0) ∧ w = 1) ∨ (x = 0 ∧ v = 0 ∧ w = 0)) : y_HI bb nn nu S M0 M2 w := by
  obtain ⟨p1, p2, p3, p4, p5, p6⟩ := y_PS1 hP ht
  refine ⟨fun a => absurd p1 (hI.1 a), fun k0 k1 k2 k3 => ?_⟩
  rcases hI.2 k0 k1 k2 k3 with ⟨a1, a2⟩ | ⟨a1, a2, a3, u, a4, a5⟩
  · exact absurd p1 a2
  · rw [z_elw_or (z_one_pg _) ⟨p3, p4⟩, ← p5] at a4
    rw [p6, a3] at hS
    rcases hS.2 p2 (by omega) (by omega) (by omega) with ⟨b1, b2⟩ | ⟨q, f, b1, b2, b3, b4, b5⟩
    · rw [b1] at a4
      exact Or.inl ⟨a4, b2⟩
    · have hq := z_bo_pg (z_one_pg _) _ _ _ b1
      rw [b1] at a4
      refine Or.inr ⟨b2, by omega, by omega, fun s => max (u s) (f s), by rw [a4, b3], ?_⟩
      obtain ⟨c1, c2⟩ := a5
      obtain ⟨d1, d2⟩ := b5
      show w = ((max (u S) (f S) : Nat) : Int) ∧ max (u S) (f S) ≤ 1
      omega
theorem y_HIe {x t : Int} (hI : y_HI bb nn nu S M0 M x) (hP : y_PS bb nn M M1 124 t) (ht : t = 0) : y_PC nn M0 M1 (z_ei bb nn (z_one bb nn nu (6 - (y_op M0).toNat)) (y_at M0)) (fun f => y_bv x f S) := by
  obtain ⟨e1, n1⟩ := y_PS0 hP ht
  subst e1
  refine ⟨hI.1, fun k0 k1 k2 k3 => ?_⟩
  rcases hI.2 k0 k1 k2 k3 with ⟨a1, a2⟩ | ⟨a1, a2, a3, u, a4, a5⟩
  · exact Or.inl ⟨a1, a2⟩
  · exact Or.inr ⟨_, _, a4.trans (z_elw_end (fun a => n1 ⟨a1, a.1, a.2⟩)), a1, rfl, a3, a5⟩
/-- implied -/
theorem y_imA {x t : Int} (hE : y_PC nn M M1 (z_ei bb nn (z_one bb nn nu (6 - (y_op M).toNat)) (y_at M)) (fun f => y_bv x f S)) (hP : y_PS bb nn M1 M2 62 t) (ht : t = 0) : y_PC nn M M2 (z_im bb nn (z_one bb nn nu (6 - (y_op M).toNat)) (y_at M)) (fun f => y_bv x f S) := by
  obtain ⟨e1, n1⟩ := y_PS0 hP ht
  subst e1
  refine ⟨hE.1, fun k0 k1 k2 k3 => ?_⟩
  rcases hE.2 k0 k1 k2 k3 with ⟨a1, a2⟩ | ⟨q, f, a1, a2, a3, a4, a5⟩
  · exact Or.inl ⟨by unfold z_im; rw [a1], a2⟩
  · refine Or.inr ⟨q, f, ?_, a2, a3, a4, a5⟩
    unfold z_im
    rw [a1]
    show (if q < nn ∧ bb q = 62 then _ else some (q, f)) = some (q, f)
    rw [if_neg (fun a => n1 ⟨a2, by rw [a3]; exact a.1, by rw [a3]; exact a.2⟩)]
theorem y_imB {x t v w : Int} (hE : y_PC nn M M1 (z_ei bb nn (z_one bb nn nu (6 - (y_op M).toNat)) (y_at M)) (fun f => y_bv x f S)) (hP : y_PS bb nn M1 M2 62 t) (ht : t ≠ 0) (hE2 : y_PC nn M2 M3 (z_ei bb nn (z_one bb nn nu (6 - (y_op M2).toNat)) (y_at M2)) (fun f => y_bv v f S)) (hw : ((x = 0 ∨ v ≠ 0) ∧ w = 1) ∨ (x ≠ 0 ∧ v = 0 ∧ w = 0)) : y_PC nn M M3 (z_im bb nn (z_one bb nn nu (6 - (y_op M).toNat)) (y_at M)) (fun f => y_bv w f S) := by
  obtain ⟨p1, p2, p3, p4, p5, p6⟩ := y_PS1 hP ht
  refine ⟨fun a => absurd p1 (hE.1 a), fun k0 k1 k2 k3 => ?_⟩
  rcases hE.2 k0 k1 k2 k3 with ⟨a1, a2⟩ | ⟨q, f, a1, a2, a3, a4, a5⟩
  · exact absurd p1 a2
  · have e1 : z_im bb nn (z_one bb nn nu (6 - (y_op M).toNat)) (y_at M) = match z_ei bb nn (z_one bb nn nu (6 - (y_op M).toNat)) (y_at M2) with
      | none => none
      | some (q2, f2) => some (q2, fun s => max (1 - f s) (f2 s)) := by
      unfold z_im
      rw [a1]
      show (if q < nn ∧ bb q = 62 then (match z_ei bb nn (z_one bb nn nu (6 - (y_op M).toNat)) (q + 1) with | none => none | some (q2, f2) => some (q2, fun s => max (1 - f s) (f2 s))) else some (q, f)) = _
      rw [if_pos ⟨by rw [← a3]; exact p3, by rw [← a3]; exact p4⟩, p5, a3]
    rw [e1]
    rw [p6, a4] at hE2
    rcases hE2.2 p2 (by omega) (by omega) (by omega) with ⟨b1, b2⟩ | ⟨q2, f2, b1, b2, b3, b4, b5⟩
    · rw [b1]; exact Or.inl ⟨rfl, b2⟩
    · rw [b1]
      refine Or.inr ⟨q2, _, rfl, b2, b3, by omega, ?_⟩
      obtain ⟨c1, c2⟩ := a5
      obtain ⟨d1, d2⟩ := b5
      show w = ((max (1 - f S) (f2 S) : Nat) : Int) ∧ max (1 - f S) (f2 S) ≤ 1
      omega
/-- alike -/
def y_AI (bb : Nat → Int) (nn : Nat) (nu : Int → Int) (S : Nat) (M0 M : zH) (x : Int) : Prop := (¬ y_ok M0 → ¬ y_ok M) ∧ (y_ok M0 → y_at M0 ≤ nn → 0 ≤ y_op M0 → y_op M0 ≤ 6 → (z_ti bb nn (z_one bb nn nu (6 - (y_op M0).toNat)) (y_at M0) = none ∧ ¬ y_ok M) ∨ (y_ok M ∧ y_at M ≤ nn ∧ y_op M = y_op M0 ∧ ∃ v, z_ti bb nn (z_one bb nn nu (6 - (y_op M0).toNat)) (y_at M0) = (if y_at M < nn ∧ bb (y_at M) = 61 then z_tlw bb nn (z_one bb nn nu (6 - (y_op M0).toNat)) (y_at M + 1) v else some (y_at M, v)) ∧ y_bv x v S))
theorem y_AI0 {x : Int} (hS : y_PC nn M0 M1 (z_im bb nn (z_one bb nn nu (6 - (y_op M0).toNat)) (y_at M0)) (fun f => y_bv x f S)) : y_AI bb nn nu S M0 M1 x := by
  refine ⟨hS.1, fun k0 k1 k2 k3 => ?_⟩
  have ht : z_ti bb nn (z_one bb nn nu (6 - (y_op M0).toNat)) (y_at M0) = z_tlw bb nn (z_one bb nn nu (6 - (y_op M0).toNat)) (y_at M0) (fun _ => 1) := rfl
  rw [ht, z_tlw_eq (z_one_pg _) k1]
  rcases hS.2 k0 k1 k2 k3 with ⟨a1, a2⟩ | ⟨q, f, a1, a2, a3, a4, a5⟩
  · rw [a1]; exact Or.inl ⟨rfl, a2⟩
  · have hq := z_im_pg (z_one_pg _) _ _ _ a1
    rw [a1]
    refine Or.inr ⟨a2, by omega, a4, fun s => if 1 = f s then 1 else 0, by rw [a3], ?_⟩
    obtain ⟨c1, c2⟩ := a5
    show x = ((if 1 = f S then 1 else 0 : Nat) : Int) ∧ (if 1 = f S then 1 else 0 : Nat) ≤ 1
    by_cases c : 1 = f S
    · rw [if_pos c]; omega
    · rw [if_neg c]; omega
theorem y_AIs {x t v w : Int} (hI : y_AI bb nn nu S M0 M x) (hP : y_PS bb nn M M1 61 t) (ht : t ≠ 0) (hS : y_PC nn M1 M2 (z_im bb nn (z_one bb nn nu (6 - (y_op M1).toNat)) (y_at M1)) (fun f => y_bv v f S)) (hw : (x = v ∧ w = 1) ∨ (x ≠ v ∧ w = 0)) : y_AI bb nn nu S M0 M2 w := by
  obtain ⟨p1, p2, p3, p4, p5, p6⟩ := y_PS1 hP ht
  refine ⟨fun a => absurd p1 (hI.1 a), fun k0 k1 k2 k3 => ?_⟩
  rcases hI.2 k0 k1 k2 k3 with ⟨a1, a2⟩ | ⟨a1, a2, a3, u, a4, a5⟩
  · exact absurd p1 a2
  · rw [if_pos ⟨p3, p4⟩, ← p5, z_tlw_eq (z_one_pg _) (by omega)] at a4
    rw [p6, a3] at hS
    rcases hS.2 p2 (by omega) (by omega) (by omega) with ⟨b1, b2⟩ | ⟨q, f, b1, b2, b3, b4, b5⟩
    · rw [b1] at a4
      exact Or.inl ⟨a4, b2⟩
    · have hq := z_im_pg (z_one_pg _) _ _ _ b1
      rw [b1] at a4
      refine Or.inr ⟨b2, by omega, by omega, fun s => if u s = f s then 1 else 0, by rw [a4, b3], ?_⟩
      obtain ⟨c1, c2⟩ := a5
      obtain ⟨d1, d2⟩ := b5
      show w = ((if u S = f S then 1 else 0 : Nat) : Int) ∧ (if u S = f S then 1 else 0 : Nat) ≤ 1
      by_cases c : u S = f S
      · rw [if_pos c]; omega
      · rw [if_neg c]; omega
theorem y_AIe {x t : Int} (hI : y_AI bb nn nu S M0 M x) (hP : y_PS bb nn M M1 61 t) (ht : t = 0) : y_PC nn M0 M1 (z_ti bb nn (z_one bb nn nu (6 - (y_op M0).toNat)) (y_at M0)) (fun f => y_bv x f S) := by
  obtain ⟨e1, n1⟩ := y_PS0 hP ht
  subst e1
  refine ⟨hI.1, fun k0 k1 k2 k3 => ?_⟩
  rcases hI.2 k0 k1 k2 k3 with ⟨a1, a2⟩ | ⟨a1, a2, a3, u, a4, a5⟩
  · exact Or.inl ⟨a1, a2⟩
  · rw [if_neg (fun a => n1 ⟨a1, a.1, a.2⟩)] at a4
    exact Or.inr ⟨_, _, a4, a1, rfl, a3, a5⟩
/-- atLeast -/
def y_LI (bb : Nat → Int) (nn : Nat) (nu : Int → Int) (S : Nat) (M0 M : zH) (l n mo : Int) : Prop := (¬ y_ok M0 → ¬ y_ok M) ∧ (y_ok M0 → y_at M0 ≤ nn → 0 ≤ y_op M0 → y_op M0 ≤ 6 → (y_lea bb nn nu M0 l = none ∧ ¬ y_ok M) ∨ (y_ok M ∧ y_at M ≤ nn ∧ y_op M0 ≠ 6 ∧ y_op M = y_op M0 + 1 ∧ ∃ u : Nat → Nat, y_lea bb nn nu M0 l = z_fn bb nn l (if mo = 0 then some (y_at M, u) else z_liw bb nn (z_one bb nn nu (5 - (y_op M0).toNat)) (y_at M) u) ∧ (mo = 0 → ¬ (y_at M < nn ∧ bb (y_at M) = 44)) ∧ n = (u S : Int)))
theorem y_leaN {l x : Int} {a a2 : Int32} {W : (Nat → Nat) → Prop} (ha : z_F M0 19 24 = some (.int a)) (hn : z_F M1 19 24 = some (.int a2)) (ha2 : a2.toInt = a.toInt + 1 ∧ 0 ≤ a.toInt) (hb : x = y_by bb nn M1) (hx : x ≠ 123) (hF : ¬ y_ok M2) : y_PC nn M0 M2 (y_lea bb nn nu M0 l) W := by
  refine ⟨fun _ => hF, fun _ _ _ _ => Or.inl ⟨?_, hF⟩⟩
  have e : y_at M1 = y_at M0 + 1 := by rw [y_atF ha, y_atF hn]; omega
  unfold y_lea z_lea
  by_cases c : y_op M0 = 6
  · rw [if_pos c]
  · rw [if_neg c]
    unfold y_by at hb
    rw [e] at hb
    rw [if_neg]
    intro d
    rw [if_pos d.1] at hb
    exact hx (hb.trans d.2)
theorem y_leaF {l y : Int} {W : (Nat → Nat) → Prop} (ho : z_F M1 19 27 = z_F M0 19 27) (hO : y_OP M1 M2 y) (hy : y = 0) : y_PC nn M0 M2 (y_lea bb nn nu M0 l) W := by
  obtain ⟨h1, h2⟩ := y_OP0 hO hy
  rw [y_opK ho] at h1
  refine ⟨fun _ => h2, fun _ _ _ _ => Or.inl ⟨?_, h2⟩⟩
  unfold y_lea
  rw [if_pos h1]
theorem y_LI0 {l x y : Int} {a a2 : Int32} (ha : z_F M0 19 24 = some (.int a)) (hn : z_F M1 19 24 = some (.int a2)) (ha2 : a2.toInt = a.toInt + 1 ∧ 0 ≤ a.toInt) (ho : z_F M1 19 27 = z_F M0 19 27) (hf : z_F M1 19 26 = z_F M0 19 26) (hb : x = y_by bb nn M1) (hx : x = 123) (hO : y_OP M1 M2 y) (hy : y ≠ 0) : y_LI bb nn nu S M0 M2 l 0 1 := by
  obtain ⟨h1, h2, h3, h4⟩ := y_OP1 hO hy
  rw [y_opK ho] at h1 h4
  have e : y_at M1 = y_at M0 + 1 := by rw [y_atF ha, y_atF hn]; omega
  obtain ⟨h5, h6⟩ := y_byp hb (by omega)
  rw [e] at h5 h6
  refine ⟨fun c d => c ((y_okK hf).mp (h2.mp d)), fun k0 k1 k2 k3 => ?_⟩
  refine Or.inr ⟨h2.mpr ((y_okK hf).mpr k0), by omega, h1, h4 k2 k3, fun _ => 0, ?_, fun q => absurd q (by decide), rfl⟩
  unfold y_lea z_lea
  rw [if_neg h1, if_pos ⟨h5, h6.trans hx⟩, h3, e]
  rfl
theorem y_LIc {l n mo mo2 : Int} (h : y_LI bb nn nu S M0 M l n mo) (e : mo = mo2) : y_LI bb nn nu S M0 M l n mo2 := by rw [← e]; exact h
theorem y_LIs {l n n2 v t : Int} (hI : y_LI bb nn nu S M0 M l n 1) (hS : y_PC nn M M1 (z_ti bb nn (z_one bb nn nu (6 - (y_op M).toNat)) (y_at M)) (fun f => y_bv v f S)) (hn : (v = 0 ∧ n2 = n) ∨ (v ≠ 0 ∧ n2 = n + 1)) (hP : y_PS bb nn M1 M2 44 t) (mo : Int) (hmo : mo = t) : y_LI bb nn nu S M0 M2 l n2 mo := by
  have hP := hP
  refine ⟨fun a => ?_, fun k0 k1 k2 k3 => ?_⟩
  · have h1 := hS.1 (hI.1 a)
    exact hP.elim (fun b => absurd b.2.1 h1) (fun b => by rw [b.2.1]; exact h1)
  rcases hI.2 k0 k1 k2 k3 with ⟨a1, a2⟩ | ⟨a1, a2, a3, a4, u, a5, _, a6⟩
  · have h1 := hS.1 a2
    exact Or.inl ⟨a1, hP.elim (fun b => absurd b.2.1 h1) (fun b => by rw [b.2.1]; exact h1)⟩
  · have m1 : ¬ ((1 : Int) = 0) := by decide
    have hd : 6 - (y_op M).toNat = 5 - (y_op M0).toNat := by omega
    rw [hd] at hS
    rw [if_neg m1, z_liw_eq (z_one_pg _) a2] at a5
    rcases hS.2 a1 a2 (by omega) (by omega) with ⟨b1, b2⟩ | ⟨q, f, b1, b2, b3, b4, b5⟩
    · rw [b1] at a5
      exact Or.inl ⟨a5, hP.elim (fun b => absurd b.2.1 b2) (fun b => by rw [b.2.1]; exact b2)⟩
    · have hq := z_ti_pg (z_one_pg _) _ _ _ b1
      rw [b1] at a5
      have a5 : y_lea bb nn nu M0 l = z_fn bb nn l (if q < nn ∧ bb q = 44 then z_liw bb nn (z_one bb nn nu (5 - (y_op M0).toNat)) (q + 1) (fun s => u s + f s) else some (q, fun s => u s + f s)) := a5
      obtain ⟨c1, c2⟩ := b5
      have hu : n2 = ((u S + f S : Nat) : Int) := by omega
      rcases hP with ⟨p0, p1, p2, p3, p4, p5, p6⟩ | ⟨p0, p1, p2⟩
      · rw [b3] at p3 p4 p5
        rw [if_pos ⟨p3, p4⟩] at a5
        have m2 : ¬ (mo = 0) := by omega
        refine Or.inr ⟨p2, by omega, a3, by omega, fun s => u s + f s, ?_, fun q => absurd q m2, hu⟩
        rw [if_neg m2, a5, p5]
      · subst p1
        rw [b3] at p2
        have np : ¬ (q < nn ∧ bb q = 44) := fun a => p2 ⟨b2, a.1, a.2⟩
        rw [if_neg np] at a5
        have m2 : mo = 0 := by omega
        refine Or.inr ⟨b2, by omega, a3, by omega, fun s => u s + f s, ?_, fun _ => by rw [b3]; exact np, hu⟩
        rw [if_pos m2, a5, b3]
theorem y_LIf {l n t mo : Int} {W : (Nat → Nat) → Prop} (hI : y_LI bb nn nu S M0 M l n mo) (hmo : mo = 0) (hP : y_PS bb nn M M1 125 t) (ht : t = 0) (hF : ¬ y_ok M2) : y_PC nn M0 M2 (y_lea bb nn nu M0 l) W := by
  obtain ⟨e1, n1⟩ := y_PS0 hP ht
  refine ⟨fun _ => hF, fun k0 k1 k2 k3 => Or.inl ⟨?_, hF⟩⟩
  rcases hI.2 k0 k1 k2 k3 with ⟨a1, a2⟩ | ⟨a1, a2, a3, a4, u, a5, _, a6⟩
  · exact a1
  · rw [a5, if_pos hmo]
    show (if y_at M < nn ∧ bb (y_at M) = 125 then _ else none) = none
    rw [if_neg (fun a => n1 ⟨a1, a.1, a.2⟩)]
theorem y_LIe {l n t mo v : Int} {o o2 : Int32} (hI : y_LI bb nn nu S M0 M l n mo) (hmo : mo = 0) (hP : y_PS bb nn M M1 125 t) (ht : t ≠ 0) (ho : z_F M1 19 27 = some (.int o)) (hn : z_F M2 19 27 = some (.int o2)) (e : o2 = o - 1) (hf : z_F M2 19 26 = z_F M1 19 26) (ha : z_F M2 19 24 = z_F M1 19 24) (hv : (n < l ∧ v = 0) ∨ (l ≤ n ∧ v = 1)) : y_PC nn M0 M2 (y_lea bb nn nu M0 l) (fun f => y_bv v f S) := by
  obtain ⟨p1, p2, p3, p4, p5, p6⟩ := y_PS1 hP ht
  refine ⟨fun a => absurd p1 (hI.1 a), fun k0 k1 k2 k3 => ?_⟩
  rcases hI.2 k0 k1 k2 k3 with ⟨a1, a2⟩ | ⟨a1, a2, a3, a4, u, a5, _, a6⟩
  · exact absurd p1 a2
  · rw [if_pos hmo] at a5
    have a5 : y_lea bb nn nu M0 l = (if y_at M < nn ∧ bb (y_at M) = 125 then some (y_at M + 1, fun s => if l ≤ (u s : Int) then 1 else 0) else none) := a5
    rw [if_pos ⟨p3, p4⟩] at a5
    refine Or.inr ⟨_, _, a5, (y_okK hf).mpr p2, (y_atK ha).trans p5, ?_, ?_⟩
    · rw [y_dn ho hn e (by omega)]; omega
    · show v = ((if l ≤ (u S : Int) then 1 else 0 : Nat) : Int) ∧ (if l ≤ (u S : Int) then 1 else 0 : Nat) ≤ 1
      by_cases c : l ≤ (u S : Int)
      · rw [if_pos c]; omega
      · rw [if_neg c]; omega
end ZY1
