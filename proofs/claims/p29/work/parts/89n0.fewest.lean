/-! mend: the fewest ties to drop, of several the least, and how many such -/
noncomputable def z_ind (p : Prop) : Nat := @ite Nat p (Classical.propDecidable p) 0 1
theorem z_ind0 {p : Prop} : z_ind p = 0 ↔ p := by
  unfold z_ind
  by_cases c : p
  · rw [if_pos c]
    exact ⟨fun _ => c, fun _ => rfl⟩
  · rw [if_neg c]
    exact ⟨fun h => absurd h (by decide), fun h => absurd h c⟩
def z_mnN (P : Nat → Prop) (N : Nat) : Prop := ∀ p, p < N → ¬ P p
noncomputable def z_mnC (P : Nat → Prop) (b N : Nat) : Nat := z_lc (fun p => z_ind (P p ∧ z_cp p 31 = z_cp b 31)) N
def z_mnB (P : Nat → Prop) (N b k : Nat) : Prop := b < N ∧ P b ∧ (∀ p, p < N → P p → z_cp b 31 ≤ z_cp p 31) ∧ (∀ p, p < b → P p → z_cp b 31 < z_cp p 31) ∧ k = z_mnC P b N
def z_mda (P : Nat → Prop) (E : Nat) (w x : Int) : Prop := (z_mnN P E ∧ x = -2) ∨ ∃ b k, z_mnB P E b k ∧ x = (if w = 0 then ((z_cp b 31 : Nat) : Int) else if w = 1 then (b : Int) else (k : Int))
section ZMN
variable {P : Nat → Prop} {N b k : Nat}
theorem z_mnBk (h : z_mnB P N b k) (hN : P N → z_cp b 31 < z_cp N 31) : z_mnB P (N + 1) b k := by
  obtain ⟨h1, h2, h3, h4, h5⟩ := h
  refine ⟨by omega, h2, fun p hp hpp => ?_, h4, ?_⟩
  · by_cases c : p = N
    · rw [c] at hpp ⊢
      exact Nat.le_of_lt (hN hpp)
    · exact h3 p (by omega) hpp
  · rw [h5]
    refine (z_lcN (fun h0 => ?_)).symm
    obtain ⟨g1, g2⟩ := z_ind0.mp h0
    have := hN g1
    omega
theorem z_mnBe (h : z_mnB P N b k) (hP : P N) (he : z_cp N 31 = z_cp b 31) : z_mnB P (N + 1) b (k + 1) := by
  obtain ⟨h1, h2, h3, h4, h5⟩ := h
  refine ⟨by omega, h2, fun p hp hpp => ?_, h4, ?_⟩
  · by_cases c : p = N
    · rw [c]
      omega
    · exact h3 p (by omega) hpp
  · rw [h5]
    exact (z_lc1 (B := fun p => z_ind (P p ∧ z_cp p 31 = z_cp b 31)) (n := N) (z_ind0.mpr ⟨hP, he⟩)).symm
theorem z_mnBn (h : ∀ p, p < N → P p → z_cp N 31 < z_cp p 31) (hP : P N) : z_mnB P (N + 1) N 1 := by
  refine ⟨Nat.lt_succ_self N, hP, fun p hp hpp => ?_, h, ?_⟩
  · by_cases c : p = N
    · rw [c]
      exact Nat.le_refl _
    · exact Nat.le_of_lt (h p (by omega) hpp)
  · have h1 := z_lc1 (B := fun p => z_ind (P p ∧ z_cp p 31 = z_cp N 31)) (n := N) (z_ind0.mpr ⟨hP, rfl⟩)
    have h2 : z_lc (fun p => z_ind (P p ∧ z_cp p 31 = z_cp N 31)) N = 0 := (z_lc_0 _ N).mpr fun s hs h0 => by
      obtain ⟨g1, g2⟩ := z_ind0.mp h0
      have := h s hs g1
      omega
    unfold z_mnC
    omega
theorem z_mnB1 (h : z_mnB P N b k) : 1 ≤ k := by
  obtain ⟨h1, h2, h3, h4, h5⟩ := h
  have h6 := z_lc_lt (fun p => z_ind (P p ∧ z_cp p 31 = z_cp b 31)) h1 (z_ind0.mpr ⟨h2, rfl⟩)
  unfold z_mnC at h5
  omega
theorem z_mnBU {b2 k2 : Nat} (h : z_mnB P N b k) (h' : z_mnB P N b2 k2) : b = b2 ∧ k = k2 := by
  obtain ⟨h1, h2, h3, h4, h5⟩ := h
  obtain ⟨g1, g2, g3, g4, g5⟩ := h'
  have e : b = b2 := by
    have a1 := h3 b2 g1 g2
    have a2 := g3 b h1 h2
    rcases Nat.lt_trichotomy b b2 with c | c | c
    · have := g4 b c h2
      omega
    · exact c
    · have := h4 b2 c g2
      omega
  subst e
  exact ⟨rfl, h5.trans g5.symm⟩
theorem z_mdaU {E : Nat} {w x y : Int} (h : z_mda P E w x) (h' : z_mda P E w y) : x = y := by
  rcases h with ⟨h1, h2⟩ | ⟨b, k, h1, h2⟩
  · rcases h' with ⟨g1, g2⟩ | ⟨b2, k2, g1, g2⟩
    · rw [h2, g2]
    · exact absurd g1.2.1 (h1 b2 g1.1)
  · rcases h' with ⟨g1, g2⟩ | ⟨b2, k2, g1, g2⟩
    · exact absurd h1.2.1 (g1 b h1.1)
    · obtain ⟨rfl, rfl⟩ := z_mnBU h1 g1
      rw [h2, g2]
end ZMN
theorem z_cp8 : ∀ p, p < 256 → z_cp p 32 = z_cp p 31 ∧ z_cp p 31 ≤ 8 := by decide +kernel
/-- the class's loop -/
def z_mnI (P : Nat → Prop) (N : Nat) (f l r : Int) : Prop := (z_mnN P N ∧ f = 9 ∧ r = 0) ∨ ∃ b k, z_mnB P N b k ∧ f = ((z_cp b 31 : Nat) : Int) ∧ l = (b : Int) ∧ r = (k : Int)
section ZMI
variable {P : Nat → Prop} {N : Nat} {f l r s l2 r2 : Int}
theorem z_mnI0 {i0 : Int32} (hi : i0.toInt = 0) (hf : f = 9) (hr : r = 0) : z_mnI P i0.toInt.toNat f l r := Or.inl ⟨fun p hp => by
  rw [hi] at hp
  exact absurd hp (Nat.not_lt_zero p), hf, hr⟩
theorem z_mnIA (h : z_mnI P N f l r) (hN : N < 256) (hs : s = ((z_cp N 32 : Nat) : Int)) (hl : f < s) : z_mnI P (N + 1) f l r := by
  have h8 := z_cp8 N hN
  rcases h with ⟨h1, h2, h3⟩ | ⟨b, k, h1, h2, h3, h4⟩
  · omega
  · exact Or.inr ⟨b, k, z_mnBk h1 (fun _ => by omega), h2, h3, h4⟩
theorem z_mnIZ (h : z_mnI P N f l r) (hP : ¬ P N) : z_mnI P (N + 1) f l r := by
  rcases h with ⟨h1, h2, h3⟩ | ⟨b, k, h1, h2, h3, h4⟩
  · refine Or.inl ⟨fun p hp => ?_, h2, h3⟩
    by_cases c : p = N
    · rw [c]
      exact hP
    · exact h1 p (by omega)
  · exact Or.inr ⟨b, k, z_mnBk h1 (fun hp => absurd hp hP), h2, h3, h4⟩
theorem z_mnIC (h : z_mnI P N f l r) (hN : N < 256) (hs : s = ((z_cp N 32 : Nat) : Int)) (hl : s < f) (hP : P N) (hl2 : l2 = (N : Int)) (hr : r2 = 1) : z_mnI P (N + 1) s l2 r2 := by
  have h8 := z_cp8 N hN
  refine Or.inr ⟨N, 1, z_mnBn (fun p hp hpp => ?_) hP, by omega, hl2, hr⟩
  rcases h with ⟨h1, h2, h3⟩ | ⟨b, k, h1, h2, h3, h4⟩
  · exact absurd hpp (h1 p hp)
  · have := h1.2.2.1 p hp hpp
    omega
theorem z_mnIE (h : z_mnI P N f l r) (hN : N < 256) (hs : s = ((z_cp N 32 : Nat) : Int)) (hl : s = f) (hP : P N) (hr : r2 = r + 1) : z_mnI P (N + 1) f l r2 := by
  have h8 := z_cp8 N hN
  rcases h with ⟨h1, h2, h3⟩ | ⟨b, k, h1, h2, h3, h4⟩
  · omega
  · exact Or.inr ⟨b, k + 1, z_mnBe h1 hP (by omega), h2, h3, by omega⟩
theorem z_mnI2 {E : Nat} {w x : Int} (h : z_mnI P N f l r) (e : N = E) (hr : r = 0) (hx : x = -2) : z_mda P E w x := by
  subst e
  rcases h with ⟨h1, h2, h3⟩ | ⟨b, k, h1, h2, h3, h4⟩
  · exact Or.inl ⟨h1, hx⟩
  · have := z_mnB1 h1
    omega
theorem z_mnI3 {E : Nat} {w x : Int} (h : z_mnI P N f l r) (e : N = E) (hr : r ≠ 0) (hx : (w = 0 ∧ x = f) ∨ (w = 1 ∧ x = l) ∨ (w ≠ 0 ∧ w ≠ 1 ∧ x = r)) : z_mda P E w x := by
  subst e
  rcases h with ⟨h1, h2, h3⟩ | ⟨b, k, h1, h2, h3, h4⟩
  · exact absurd h3 hr
  · refine Or.inr ⟨b, k, h1, ?_⟩
    rcases hx with ⟨c, e⟩ | ⟨c, e⟩ | ⟨c, d, e⟩
    · rw [if_pos c, e, h2]
    · rw [if_neg (by omega), if_pos c, e, h3]
    · rw [if_neg c, if_neg d, e, h4]
end ZMI
/-- the reference's loop -/
def y_mnI (P : Nat → Prop) (N : Nat) (b r : Int) : Prop := (z_mnN P N ∧ b = -1) ∨ ∃ b' k, z_mnB P N b' k ∧ b = (b' : Int) ∧ r = (k : Int)
section YMI
variable {P : Nat → Prop} {N : Nat} {b r s sb r2 b2 : Int}
theorem y_mnI0 {i0 : Int32} (hi : i0.toInt = 0) (hb : b = -1) : y_mnI P i0.toInt.toNat b r := Or.inl ⟨fun p hp => by
  rw [hi] at hp
  exact absurd hp (Nat.not_lt_zero p), hb⟩
theorem y_mnIA (h : y_mnI P N b r) (hs : s = ((z_cp N 31 : Nat) : Int)) (hb : sb = ((z_cp b.toNat 31 : Nat) : Int)) (b0 : 0 ≤ b) (hl : sb < s) : y_mnI P (N + 1) b r := by
  rcases h with ⟨h1, h2⟩ | ⟨b', k, h1, h2, h3⟩
  · omega
  · rw [show b.toNat = b' by omega] at hb
    exact Or.inr ⟨b', k, z_mnBk h1 (fun _ => by omega), h2, h3⟩
theorem y_mnIZ (h : y_mnI P N b r) (hP : ¬ P N) : y_mnI P (N + 1) b r := by
  rcases h with ⟨h1, h2⟩ | ⟨b', k, h1, h2, h3⟩
  · refine Or.inl ⟨fun p hp => ?_, h2⟩
    by_cases c : p = N
    · rw [c]
      exact hP
    · exact h1 p (by omega)
  · exact Or.inr ⟨b', k, z_mnBk h1 (fun hp => absurd hp hP), h2, h3⟩
theorem y_mnIN (h : y_mnI P N b r) (b0 : b < 0) (hP : P N) (hb : b2 = (N : Int)) (hr : r2 = 1) : y_mnI P (N + 1) b2 r2 := by
  rcases h with ⟨h1, h2⟩ | ⟨b', k, h1, h2, h3⟩
  · exact Or.inr ⟨N, 1, z_mnBn (fun p hp hpp => absurd hpp (h1 p hp)) hP, hb, hr⟩
  · omega
theorem y_mnIC (h : y_mnI P N b r) (b0 : 0 ≤ b) (hs : s = ((z_cp N 31 : Nat) : Int)) (hb : sb = ((z_cp b.toNat 31 : Nat) : Int)) (hl : s < sb) (hP : P N) (hb2 : b2 = (N : Int)) (hr : r2 = 1) : y_mnI P (N + 1) b2 r2 := by
  rcases h with ⟨h1, h2⟩ | ⟨b', k, h1, h2, h3⟩
  · omega
  · rw [show b.toNat = b' by omega] at hb
    refine Or.inr ⟨N, 1, z_mnBn (fun p hp hpp => ?_) hP, hb2, hr⟩
    have := h1.2.2.1 p hp hpp
    omega
theorem y_mnIE (h : y_mnI P N b r) (b0 : 0 ≤ b) (hs : s = ((z_cp N 31 : Nat) : Int)) (hb : sb = ((z_cp b.toNat 31 : Nat) : Int)) (hl : s = sb) (hP : P N) (hr : r2 = r + 1) : y_mnI P (N + 1) b r2 := by
  rcases h with ⟨h1, h2⟩ | ⟨b', k, h1, h2, h3⟩
  · omega
  · rw [show b.toNat = b' by omega] at hb
    exact Or.inr ⟨b', k + 1, z_mnBe h1 hP (by omega), h2, by omega⟩
theorem y_mnI2 {E : Nat} {w x : Int} (h : y_mnI P N b r) (e : N = E) (hb : b < 0) (hx : x = -2) : z_mda P E w x := by
  subst e
  rcases h with ⟨h1, h2⟩ | ⟨b', k, h1, h2, h3⟩
  · exact Or.inl ⟨h1, hx⟩
  · omega
theorem y_mnI3 {E : Nat} {w x : Int} (h : y_mnI P N b r) (e : N = E) (hb : 0 ≤ b) (hx : (w = 0 ∧ x = ((z_cp b.toNat 31 : Nat) : Int)) ∨ (w = 1 ∧ x = b) ∨ (w ≠ 0 ∧ w ≠ 1 ∧ x = r)) : z_mda P E w x := by
  subst e
  rcases h with ⟨h1, h2⟩ | ⟨b', k, h1, h2, h3⟩
  · omega
  · refine Or.inr ⟨b', k, h1, ?_⟩
    rcases hx with ⟨c, e⟩ | ⟨c, e⟩ | ⟨c, d, e⟩
    · rw [if_pos c, e, show b.toNat = b' by omega]
    · rw [if_neg (by omega), if_pos c, e, h2]
    · rw [if_neg c, if_neg d, e, h3]
end YMI
theorem z_fewR {T : List zK} {M : zH} {N q t m : Nat} (hW : z_W M T) (k : T[N]? = some (.inl (2, q, t, m, 0))) : (∃ fb, z_F M N 12 = some (.ref fb) ∧ T[fb]? = some (.inr (112, 1, z_bl q, 0, 0))) ∧ ∃ fw, z_F M N 13 = some (.ref fw) ∧ T[fw]? = some (.inr (113, 0, 12, 0, 64 * ((z_bl q : Nat) : Int) - 1)) := by
  obtain ⟨v, e, ho⟩ := hW.fld k (k := 12) (by decide)
  obtain ⟨v2, e2, ho2⟩ := hW.fld k (k := 13) (by decide)
  have h1 : z_okv T (z_fk (z_al 112 (z_bl q))) v := ho
  have h2 : z_okv T (z_fk (z_ai 113 12 0 (64 * ((z_bl q : Nat) : Int) - 1))) v2 := ho2
  refine ⟨?_, ?_⟩
  · cases v <;> first | exact ⟨_, e, h1⟩ | exact (show False from h1).elim
  · cases v2 <;> first | exact ⟨_, e2, h2⟩ | exact (show False from h2).elim
