/-! the shelves on both sides -/
def z_shf (M : zH) (d : Nat) : Prop := ((z_Ar M 14 d).toInt = -1 ∧ (z_Ar M 49 d).toInt = -1) ∨
  ((z_Ar M 14 d).toInt = 5 ∧ ∃ i : Nat, (z_Ar M 49 d).toInt = (i : Int) ∧ i < 20 ∧ True) ∨
  (0 ≤ (z_Ar M 14 d).toInt ∧ (z_Ar M 14 d).toInt ≤ 4 ∧ (z_Ar M 49 d).toInt = 20 + (z_Ar M 14 d).toInt ∧ (z_Ar M 50 d).toInt = (z_Ar M 15 d).toInt ∧ True)
def z_R2a (M : zH) : Prop := ∀ d : Nat, d < 6 → z_shf M d
def z_R4 (M : zH) : Prop := ∀ d i : Nat, d < 6 → (i : Int) < (z_Ar M 15 d).toInt → 0 ≤ (z_Ar M 14 d).toInt → (z_Ar M 14 d).toInt ≤ 4 → z_Lg M 16 (60 * d + i) = z_Lg M 51 (60 * d + i)
def z_R2 (M : zH) : Prop := z_R2a M ∧ z_R4 M
def z_Rw1 (T : List zK) (M : zH) : Prop := ∀ W : Int32, z_F M 4 5 = some (.int W) → ∀ i : Nat, (i : Int) < W.toInt → ∃ b kd : Nat, z_O M 12 i = some b ∧ kd ≤ 7 ∧ T[b]? = some (.inl (4 + kd, 0, 0, 0, 0)) ∧ (z_Ar M 36 i).toInt = (kd : Int) ∧ z_F M b 0 = some (.int (z_Ar M 36 i)) ∧ z_F M b 1 = some (.int (z_Ar M 37 i)) ∧ z_F M b 2 = some (.int (z_Ar M 38 i)) ∧ ∃ p : Int32, z_F M b 3 = some (.int p) ∧ p.toInt = (i : Int)
def z_RRA (T : List zK) (M : zH) : Prop := z_Rw1 T M ∧ z_R2 M
def z_JA (M : zH) : Prop := ∃ T, z_inv T M ∧ z_RRA T M
def z_pr2 : List Nat := [14, 15, 49, 50, 16, 51]
def z_pr1 : List Nat := [1005, 12, 36, 37, 38, 1400, 1401, 1402, 1403, 1500, 1501, 1502, 1503, 1600, 1601, 1602, 1603, 1700, 1701, 1702, 1703, 1800, 1801, 1802, 1803, 1900, 1901, 1902, 1903, 2000, 2001, 2002, 2003, 2100, 2101, 2102, 2103]
def z_prRA : List Nat := z_pr1 ++ z_pr2
theorem z_wr {k : Nat} (hk : k < 4) : ∀ kd, kd ≤ 7 → (1000 + 100 * (4 + kd) + k) ∈ z_pr1 := by
  match k, hk with
  | 0, _ => decide
  | 1, _ => decide
  | 2, _ => decide
  | 3, _ => decide
theorem z_Rw1.ke {M M1 : zH} {T T1 : List zK} {rs : List Nat} (h : z_Rw1 T M) (hW : z_W M T) (hp : ∀ (a : Nat) (κ : zK), T[a]? = some κ → T1[a]? = some κ) (ke : z_ke T rs M M1) (hr : z_dj z_pr1 rs = true) : z_Rw1 T1 M1 := by
  have nr := z_djn hr
  have k4 := hW.k (k := 4) (κ := .inl (0, 0, 0, 0, 0)) rfl (by decide)
  have k12 := hW.k (k := 12) (κ := .inr (12, 3, 20, 0, 0)) rfl (by decide)
  have k36 := hW.k (k := 36) (κ := z_ai 36 20 0 7) rfl (by decide)
  have k37 := hW.k (k := 37) (κ := z_ai 37 20 0 9) rfl (by decide)
  have k38 := hW.k (k := 38) (κ := z_ai 38 20 0 8) rfl (by decide)
  intro W hF i hi
  rw [ke.1 4 0 0 0 0 0 5 k4 (nr _ (by decide))] at hF
  obtain ⟨b, kd, h1, h2, h3, h4, h5, h6, h7, p, h8, h9⟩ := h W hF i hi
  have e36 := ke.a k36 (nr _ (by decide))
  have e37 := ke.a k37 (nr _ (by decide))
  have e38 := ke.a k38 (nr _ (by decide))
  refine ⟨b, kd, ?_, h2, hp _ _ h3, ?_, ?_, ?_, ?_, p, ?_, h9⟩
  · rw [ke.o k12 (nr _ (by decide))]; exact h1
  · rw [e36]; exact h4
  · rw [e36, ke.1 b _ 0 0 0 0 0 h3 (nr _ (z_wr (by decide) kd h2))]; exact h5
  · rw [e37, ke.1 b _ 0 0 0 0 1 h3 (nr _ (z_wr (by decide) kd h2))]; exact h6
  · rw [e38, ke.1 b _ 0 0 0 0 2 h3 (nr _ (z_wr (by decide) kd h2))]; exact h7
  · rw [ke.1 b _ 0 0 0 0 3 h3 (nr _ (z_wr (by decide) kd h2))]; exact h8
theorem z_R2a.ke {M M1 : zH} {T : List zK} {rs : List Nat} (h : z_R2a M) (hW : z_W M T) (ke : z_ke T rs M M1) (hr : z_dj z_pr2 rs = true) : z_R2a M1 := by
  have nr := z_djn hr
  have k14 := hW.k (k := 14) (κ := z_ai 14 6 (-1) 5) rfl (by decide)
  have k15 := hW.k (k := 15) (κ := z_ai 15 6 0 60) rfl (by decide)
  have k49 := hW.k (k := 49) (κ := z_ai 49 6 (-1) 24) rfl (by decide)
  have k50 := hW.k (k := 50) (κ := z_ai 50 6 0 60) rfl (by decide)
  intro d hd
  unfold z_shf
  rw [ke.a k14 (nr _ (by decide)), ke.a k15 (nr _ (by decide)), ke.a k49 (nr _ (by decide)), ke.a k50 (nr _ (by decide))]
  exact h d hd
theorem z_R4.same {M M2 : zH} (h : z_R4 M) (e14 : z_Ar M2 14 = z_Ar M 14) (e15 : z_Ar M2 15 = z_Ar M 15) (f16 : z_Lg M2 16 = z_Lg M 16) (f51 : z_Lg M2 51 = z_Lg M 51) : z_R4 M2 := by
  intro d i hd hi s0 s1
  rw [e15] at hi
  rw [e14] at s0 s1
  rw [f16, f51]
  exact h d i hd hi s0 s1
theorem z_R4.ke {M M1 : zH} {T : List zK} {rs : List Nat} (h : z_R4 M) (hW : z_W M T) (ke : z_ke T rs M M1) (h14 : ¬ 14 ∈ rs) (h15 : ¬ 15 ∈ rs) (h16 : ¬ 16 ∈ rs) (h51 : ¬ 51 ∈ rs) : z_R4 M1 := by
  have k14 := hW.k (k := 14) (κ := z_ai 14 6 (-1) 5) rfl (by decide)
  have k15 := hW.k (k := 15) (κ := z_ai 15 6 0 60) rfl (by decide)
  have k16 := hW.k (k := 16) (κ := z_al 16 360) rfl (by decide)
  have k51 := hW.k (k := 51) (κ := z_al 51 360) rfl (by decide)
  exact h.same (ke.a k14 h14) (ke.a k15 h15) (ke.lg k16 h16) (ke.lg k51 h51)
theorem z_R2.ke {M M1 : zH} {T : List zK} {rs : List Nat} (h : z_R2 M) (hW : z_W M T) (ke : z_ke T rs M M1) (hr : z_dj z_pr2 rs = true) : z_R2 M1 :=
  have nr := z_djn hr
  ⟨h.1.ke hW ke hr, h.2.ke hW ke (nr _ (by decide)) (nr _ (by decide)) (nr _ (by decide)) (nr _ (by decide))⟩
theorem z_RRA.ke {M M1 : zH} {T T1 : List zK} {rs : List Nat} (h : z_RRA T M) (hW : z_W M T) (hp : ∀ (a : Nat) (κ : zK), T[a]? = some κ → T1[a]? = some κ) (ke : z_ke T rs M M1) (hr : z_dj z_prRA rs = true) : z_RRA T1 M1 := ⟨h.1.ke hW hp ke (z_djs hr (by decide)), h.2.ke hW ke (z_djs hr (by decide))⟩
theorem z_RRA.go {M M1 : zH} {T : List zK} {rs : List Nat} (h : z_RRA T M) (hW : z_W M T) (hX : z_X T rs M M1) (hr : z_dj z_prRA rs = true) : z_RRA T M1 := h.ke hW (fun _ _ h => h) hX.2 hr
theorem z_JA.two {d j k : Nat} {L1 L2 : zL} {M : zH} {T : List zK} {A B : Option Value → Prop} {C : Option Value → Option Value → Prop} {r1 r2 : List Nat} (hA : z_inv T M) (hR : z_RRA T M) (hr1 : z_dj (z_prt ++ z_prRA ++ [1012]) r1 = true) (hr2 : z_dj (z_prt ++ z_prRA ++ [1012]) r2 = true)
    (h1 : z_ev d j 0 L1 [] M fun v M1 => A v ∧ z_X T r1 M M1 ∧ z_ev d k 0 L2 [] M1 fun v2 M2 => B v2 ∧ C v v2 ∧ z_X T r2 M1 M2) :
    z_ev d j 0 L1 [] M fun v M1 => A v ∧ z_ev d k 0 L2 [] M1 fun v2 M2 => B v2 ∧ C v v2 ∧ z_JA M2 ∧ M2.length ≤ M.length + 1171 ∧ z_szr M2 ≤ z_szr M + 14000 := by
  have p1 := z_dja (z_dja hr1).1
  have p2 := z_dja (z_dja hr2).1
  refine z_twoG (h1.mono fun v M1 ⟨a1, X1, a2⟩ => ⟨a1, Or.inl ⟨X1.1.1.trans hA.1.1.1.symm, z_kep X1 (z_ro2 hr1)⟩, a2.mono fun v2 M2 ⟨b1, b2, X2⟩ => ⟨b1, b2, ⟨T, z_kee (z_kee hA X1 p1.1) X2 p2.1, (hR.go hA.1.1 X1 p1.2).go X1.1 X2 p2.2⟩, X2.1.1.trans X1.1.1.symm, z_kep X2 (z_ro2 hr2)⟩⟩)
theorem z_freshJA : z_freshOk z_JA := by
  intro L xs M hl hf h0
  obtain ⟨T, hA⟩ := z_freshI L xs M hl hf h0
  obtain ⟨f14, e14, g14⟩ := z_qI (hf 14 (by decide) (by decide))
  obtain ⟨f49, e49, g49⟩ := z_qI (hf 49 (by decide) (by decide))
  have e4 := z_qO (hf 4 (by decide) (by decide))
  have a5 : z_F M 4 5 = some (.int 0) := by unfold z_F; rw [e4]; rfl
  have z0 : (0 : Int32).toInt = 0 := rfl
  refine ⟨T, hA, ?_, ?_, ?_⟩
  · intro W hW i hi
    rw [a5] at hW
    cases hW
    omega
  · intro d hd
    refine Or.inl ⟨?_, ?_⟩
    · unfold z_Ar
      rw [e14]
      show (f14 d).toInt = -1
      rw [g14 d hd]
      rfl
    · unfold z_Ar
      rw [e49]
      show (f49 d).toInt = -1
      rw [g49 d hd]
      rfl
  · intro d i hd hi s0 s1
    unfold z_Ar at s0
    rw [e14] at s0
    have s2 : 0 ≤ (f14 d).toInt := s0
    rw [g14 d hd] at s2
    exact absurd s2 (by decide)
