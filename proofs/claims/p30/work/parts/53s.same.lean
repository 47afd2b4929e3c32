theorem z_updn {f g : Nat → Int32} {k d : Nat} {v : Int32} (h : f = upd g k v) (hd : d ≠ k) : f d = g d := by
  rw [h]
  show (if d = k then v else g d) = g d
  exact if_neg hd
theorem z_updRn {f g : Nat → Option Nat} {k d : Nat} {v : Option Nat} (h : f = z_updR g k v) (hd : d ≠ k) : f d = g d := by
  rw [h]
  unfold z_updR
  exact if_neg hd
theorem z_updRs {f g : Nat → Option Nat} {k : Nat} {v : Option Nat} (h : f = z_updR g k v) : f k = v := by
  rw [h]
  unfold z_updR
  exact if_pos rfl
theorem z_R2a.put {M M2 : zH} {k : Nat} (h : z_R2a M) (e45 : z_F M2 4 5 = z_F M 4 5) (e12 : z_O M2 12 = z_O M 12) (h14 : ∀ d, d ≠ k → z_Ar M2 14 d = z_Ar M 14 d) (h15 : ∀ d, d ≠ k → z_Ar M2 15 d = z_Ar M 15 d) (h17 : ∀ d, d ≠ k → z_O M2 17 d = z_O M 17 d) (h49 : ∀ d, d ≠ k → z_Ar M2 49 d = z_Ar M 49 d) (h50 : ∀ d, d ≠ k → z_Ar M2 50 d = z_Ar M 50 d) (hp : z_shf M2 k) : z_R2a M2 := fun d hd => by
  by_cases e : d = k
  · rw [e]; exact hp
  · unfold z_shf
    rw [h14 d e, h15 d e, h49 d e, h50 d e]
    exact h d hd
theorem z_R4.upd {M M2 : zH} (h : z_R4 M) (e14 : z_Ar M2 14 = z_Ar M 14) (e15 : z_Ar M2 15 = z_Ar M 15) {m : Nat} {w : Int64} (f16 : z_Lg M2 16 = z_updL (z_Lg M 16) m w) (f51 : z_Lg M2 51 = z_updL (z_Lg M 51) m w) : z_R4 M2 := by
  intro d i hd hi s0 s1
  rw [e15] at hi
  rw [e14] at s0 s1
  rw [f16, f51]
  show (if 60 * d + i = m then w else z_Lg M 16 (60 * d + i)) = (if 60 * d + i = m then w else z_Lg M 51 (60 * d + i))
  by_cases e : 60 * d + i = m
  · rw [if_pos e, if_pos e]
  · rw [if_neg e, if_neg e]
    exact h d i hd hi s0 s1
theorem z_R4.cpy {M M2 : zH} (h : z_R4 M) (e14 : z_Ar M2 14 = z_Ar M 14) (e15 : z_Ar M2 15 = z_Ar M 15) {d1 i1 b n : Nat} (f16 : z_Lg M2 16 = z_cpy (z_Lg M 16) (z_Lg M 16) (60 * d1 + i1) b n) (f51 : z_Lg M2 51 = z_cpy (z_Lg M 51) (z_Lg M 51) (60 * d1 + i1) b n) (hd1 : d1 < 6) (t0 : 0 ≤ (z_Ar M 14 d1).toInt) (t1 : (z_Ar M 14 d1).toInt ≤ 4) (hz : (i1 : Int) + n ≤ (z_Ar M 15 d1).toInt) : z_R4 M2 := by
  intro d i hd hi s0 s1
  rw [e15] at hi
  rw [e14] at s0 s1
  rw [f16, f51]
  show (if b ≤ 60 * d + i ∧ 60 * d + i < b + n then z_Lg M 16 (60 * d1 + i1 + (60 * d + i - b)) else z_Lg M 16 (60 * d + i)) = (if b ≤ 60 * d + i ∧ 60 * d + i < b + n then z_Lg M 51 (60 * d1 + i1 + (60 * d + i - b)) else z_Lg M 51 (60 * d + i))
  by_cases e : b ≤ 60 * d + i ∧ 60 * d + i < b + n
  · rw [if_pos e, if_pos e]
    have ha : 60 * d1 + i1 + (60 * d + i - b) = 60 * d1 + (i1 + (60 * d + i - b)) := by omega
    rw [ha]
    exact h d1 _ hd1 (by omega) t0 t1
  · rw [if_neg e, if_neg e]
    exact h d i hd hi s0 s1
theorem z_R4.sort {M M2 : zH} {k : Nat} (h : z_R4 M) (h14 : ∀ d, d ≠ k → z_Ar M2 14 d = z_Ar M 14 d) (hk : (z_Ar M2 14 k).toInt = -1 ∨ (z_Ar M2 14 k).toInt = 5) (e15 : z_Ar M2 15 = z_Ar M 15) (f16 : z_Lg M2 16 = z_Lg M 16) (f51 : z_Lg M2 51 = z_Lg M 51) : z_R4 M2 := by
  intro d i hd hi s0 s1
  by_cases e : d = k
  · rw [e] at s0 s1
    exfalso
    omega
  · rw [e15] at hi
    rw [h14 d e] at s0 s1
    rw [f16, f51]
    exact h d i hd hi s0 s1
theorem z_R4.row {M M2 : zH} {k n : Nat} (h : z_R4 M) (h14 : ∀ d, d ≠ k → z_Ar M2 14 d = z_Ar M 14 d) (h15 : ∀ d, d ≠ k → z_Ar M2 15 d = z_Ar M 15 d) (hz : (z_Ar M2 15 k).toInt = n) (hn : n ≤ 60) (h60 : ∀ d, d < 6 → (z_Ar M 15 d).toInt ≤ 60) (f16 : z_Lg M2 16 = z_fil (z_Lg M 16) (60 * k) (60 * k + n) 0) (f51 : z_Lg M2 51 = z_fil (z_Lg M 51) (60 * k) (60 * k + 60) 0) : z_R4 M2 := by
  intro d i hd hi s0 s1
  rw [f16, f51]
  show (if 60 * k ≤ 60 * d + i ∧ 60 * d + i < 60 * k + n then (0 : Int64) else z_Lg M 16 (60 * d + i)) = (if 60 * k ≤ 60 * d + i ∧ 60 * d + i < 60 * k + 60 then (0 : Int64) else z_Lg M 51 (60 * d + i))
  by_cases e : d = k
  · subst e
    rw [hz] at hi
    have a1 : 60 * d ≤ 60 * d + i ∧ 60 * d + i < 60 * d + n := by omega
    have a2 : 60 * d ≤ 60 * d + i ∧ 60 * d + i < 60 * d + 60 := by omega
    rw [if_pos a1, if_pos a2]
  · rw [h15 d e] at hi
    rw [h14 d e] at s0 s1
    have hs := h60 d hd
    have a1 : ¬ (60 * k ≤ 60 * d + i ∧ 60 * d + i < 60 * k + n) := by omega
    have a2 : ¬ (60 * k ≤ 60 * d + i ∧ 60 * d + i < 60 * k + 60) := by omega
    rw [if_neg a1, if_neg a2]
    exact h d i hd hi s0 s1
theorem z_RRA.push {M es : zH} {T κs : List zK} (h : z_RRA T M) (hW : z_W M T) (_ : z_W (M ++ es) (T ++ κs)) : z_RRA (T ++ κs) (M ++ es) := h.ke (rs := []) hW z_pfx (z_ke.block hW) rfl
theorem z_R2a.same2 {T : List zK} {M M1 M2 : zH} {r1 r2 : List Nat} (h : z_R2a M) (hW : z_W M T) (X1 : z_X T r1 M M1) (X2 : z_X T r2 M1 M2) (h1 : z_dj [14, 15, 49, 50] r1 = true) (h2 : z_dj [14, 15, 49, 50] r2 = true) : z_R2a M2 := by
  have k14 := hW.k (k := 14) (κ := z_ai 14 6 (-1) 5) rfl (by decide)
  have k15 := hW.k (k := 15) (κ := z_ai 15 6 0 60) rfl (by decide)
  have k49 := hW.k (k := 49) (κ := z_ai 49 6 (-1) 24) rfl (by decide)
  have k50 := hW.k (k := 50) (κ := z_ai 50 6 0 60) rfl (by decide)
  have n1 := z_djn h1
  have n2 := z_djn h2
  intro d hd
  unfold z_shf
  rw [X2.2.a k14 (n2 _ (by decide)), X2.2.a k15 (n2 _ (by decide)), X2.2.a k49 (n2 _ (by decide)), X2.2.a k50 (n2 _ (by decide)), X1.2.a k14 (n1 _ (by decide)), X1.2.a k15 (n1 _ (by decide)), X1.2.a k49 (n1 _ (by decide)), X1.2.a k50 (n1 _ (by decide))]
  exact h d hd
def z_Q33 (I : zH → Prop) : Prop := ∀ (x1 : Int32) (x2 : Int32) (x3 : Int64) (M : zH), I M → z_ev 2046 177 0 (z_ent [.ref 4, .int x1, .int x2, .long x3] (z_ml 177)) [] M fun v M1 => (∃ y, v = some (.int y)) ∧ z_ev 2046 286 0 (z_ent [.ref 19, .int x1, .int x2, .long x3] (z_ml 286)) [] M1 fun v2 M2 => (∃ y, v2 = some (.int y)) ∧ v = v2 ∧ I M2 ∧ M2.length ≤ M.length + 1171 ∧ z_szr M2 ≤ z_szr M + 14000
theorem zSA33 : z_Q33 z_JA := by
  intro x1 x2 x3 M ⟨T, hA, hR⟩
  have hW := hA.1.1
  have k4 : T[4]? = some (.inl (0, 0, 0, 0, 0)) := hW.k rfl (by decide)
  have k12 := hW.k (k := 12) (κ := .inr (12, 3, 20, 0, 0)) rfl (by decide)
  have k14 := hW.k (k := 14) (κ := z_ai 14 6 (-1) 5) rfl (by decide)
  have k15 := hW.k (k := 15) (κ := z_ai 15 6 0 60) rfl (by decide)
  have k17 := hW.k (k := 17) (κ := .inr (17, 3, 6, 0, 0)) rfl (by decide)
  have k49 := hW.k (k := 49) (κ := z_ai 49 6 (-1) 24) rfl (by decide)
  have k50 := hW.k (k := 50) (κ := z_ai 50 6 0 60) rfl (by decide)
  have k16 := hW.k (k := 16) (κ := z_al 16 360) rfl (by decide)
  have k51 := hW.k (k := 51) (κ := z_al 51 360) rfl (by decide)
  refine z_twoG (C := fun v v2 => v = v2) ?_
  rw [zzm177]
  show z_ev 2046 177 0 [some (.ref 4), some (.int x1), some (.int x2), some (.long x3), none, none] [] M _
  refine zRC177 (d := 2044) hW fun y M1 X1 _ _ r1 l1 l2 => ?_
  refine ⟨⟨y, rfl⟩, Or.inl ⟨X1.1.1.trans hW.1.symm, z_kep X1 (by decide)⟩, ?_⟩
  rw [zzm286]
  show z_ev 2046 286 0 [some (.ref 19), some (.int x1), some (.int x2), some (.long x3), none, none] [] M1 _
  refine zRC286 (d := 2043) X1.1 fun z M2 X2 _ _ r2 m1 m2 => ?_
  have c49 := X1.2.a k49 (by decide)
  have c50 := X1.2.a k50 (by decide)
  have c51 := X1.2.lg k51 (by decide)
  have d16 := X2.2.lg k16 (by decide)
  have e14 : z_Ar M2 14 = z_Ar M 14 := (X2.2.a k14 (by decide)).trans (X1.2.a k14 (by decide))
  have e15 : z_Ar M2 15 = z_Ar M 15 := (X2.2.a k15 (by decide)).trans (X1.2.a k15 (by decide))
  rw [c49, c50] at r2
  rw [c49] at m1
  rw [← d16] at l1 l2
  rw [c51] at m1 m2
  have hx1 : 0 ≤ x1.toInt → x1.toInt ≤ 5 → z_shf M x1.toNatClampNeg := fun a b => hR.2.1 _ (by unfold Int32.toNatClampNeg; omega)
  unfold z_shf at hx1
  have tx1 : 0 ≤ x1.toInt → x1.toInt ≤ 5 → ((z_Ar M 14 x1.toNatClampNeg).toInt = -1 ∧ (z_Ar M 49 x1.toNatClampNeg).toInt = -1) ∨ ((z_Ar M 14 x1.toNatClampNeg).toInt = 5 ∧ 0 ≤ (z_Ar M 49 x1.toNatClampNeg).toInt ∧ (z_Ar M 49 x1.toNatClampNeg).toInt < 20) ∨ (0 ≤ (z_Ar M 14 x1.toNatClampNeg).toInt ∧ (z_Ar M 14 x1.toNatClampNeg).toInt ≤ 4 ∧ (z_Ar M 49 x1.toNatClampNeg).toInt = 20 + (z_Ar M 14 x1.toNatClampNeg).toInt ∧ (z_Ar M 50 x1.toNatClampNeg).toInt = (z_Ar M 15 x1.toNatClampNeg).toInt) := by
    intro a b
    rcases hx1 a b with ⟨q1, q2⟩ | ⟨q1, i, q2, q3, _⟩ | ⟨q1, q2, q3, q4, _⟩
    · exact Or.inl ⟨q1, q2⟩
    · exact Or.inr (Or.inl ⟨q1, by omega, by omega⟩)
    · exact Or.inr (Or.inr ⟨q1, q2, q3, q4⟩)
  clear hx1
  have e : y.toInt = z.toInt := by
    clear l1 m1
    by_cases hr : 0 ≤ x1.toInt ∧ x1.toInt ≤ 5
    · have q := tx1 hr.1 hr.2
      omega
    · omega
  have h4 : z_R4 M2 := by
    by_cases hy : y.toInt = 1
    · obtain ⟨w, q, f16⟩ := l1 hy
      obtain ⟨w2, q2, f51⟩ := m1 (by rw [← e]; exact hy)
      clear l1 m1
      have q1 := tx1 (by omega) (by omega)
      have ew := z_lbP.u q (z_lbPc (by omega) q2)
      subst ew
      exact hR.2.2.upd e14 e15 f16 f51
    · exact hR.2.2.same e14 e15 (l2 hy) (m2 (by rw [← e]; exact hy))
  exact ⟨⟨z, rfl⟩, by rw [Int32.toInt_inj.mp e], ⟨T, z_kee (z_kee hA X1 (by decide)) X2 (by decide), (hR.1.ke hW (fun _ _ h => h) X1.2 rfl).ke X1.1 (fun _ _ h => h) X2.2 rfl, z_R2a.same2 hR.2.1 hW X1 X2 (by decide) (by decide), h4⟩, X2.1.1.trans X1.1.1.symm, z_kep X2 (by decide)⟩
def z_Q35 (I : zH → Prop) : Prop := ∀ (x1 : Int32) (x2 : Int32) (x3 : Int32) (x4 : Int32) (x5 : Int32) (M : zH), I M → z_ev 2046 181 0 (z_ent [.ref 4, .int x1, .int x2, .int x3, .int x4, .int x5] (z_ml 181)) [] M fun v M1 => (∃ y, v = some (.int y)) ∧ z_ev 2046 290 0 (z_ent [.ref 19, .int x1, .int x2, .int x3, .int x4, .int x5] (z_ml 290)) [] M1 fun v2 M2 => (∃ y, v2 = some (.int y)) ∧ v = v2 ∧ I M2 ∧ M2.length ≤ M.length + 1171 ∧ z_szr M2 ≤ z_szr M + 14000
theorem zSA35 : z_Q35 z_JA := by
  intro x1 x2 x3 x4 x5 M ⟨T, hA, hR⟩
  have hW := hA.1.1
  have k4 : T[4]? = some (.inl (0, 0, 0, 0, 0)) := hW.k rfl (by decide)
  have k12 := hW.k (k := 12) (κ := .inr (12, 3, 20, 0, 0)) rfl (by decide)
  have k14 := hW.k (k := 14) (κ := z_ai 14 6 (-1) 5) rfl (by decide)
  have k15 := hW.k (k := 15) (κ := z_ai 15 6 0 60) rfl (by decide)
  have k17 := hW.k (k := 17) (κ := .inr (17, 3, 6, 0, 0)) rfl (by decide)
  have k49 := hW.k (k := 49) (κ := z_ai 49 6 (-1) 24) rfl (by decide)
  have k50 := hW.k (k := 50) (κ := z_ai 50 6 0 60) rfl (by decide)
  have k16 := hW.k (k := 16) (κ := z_al 16 360) rfl (by decide)
  have k51 := hW.k (k := 51) (κ := z_al 51 360) rfl (by decide)
  refine z_twoG (C := fun v v2 => v = v2) ?_
  rw [zzm181]
  show z_ev 2046 181 0 [some (.ref 4), some (.int x1), some (.int x2), some (.int x3), some (.int x4), some (.int x5)] [] M _
  refine zRC181 (d := 2045) hW fun y M1 X1 _ _ r1 l1 l2 => ?_
  refine ⟨⟨y, rfl⟩, Or.inl ⟨X1.1.1.trans hW.1.symm, z_kep X1 (by decide)⟩, ?_⟩
  rw [zzm290]
  show z_ev 2046 290 0 [some (.ref 19), some (.int x1), some (.int x2), some (.int x3), some (.int x4), some (.int x5), none] [] M1 _
  refine zRC290 (d := 2044) X1.1 fun z M2 X2 _ _ r2 m1 m2 => ?_
  have c49 := X1.2.a k49 (by decide)
  have c50 := X1.2.a k50 (by decide)
  have c51 := X1.2.lg k51 (by decide)
  have d16 := X2.2.lg k16 (by decide)
  have e14 : z_Ar M2 14 = z_Ar M 14 := (X2.2.a k14 (by decide)).trans (X1.2.a k14 (by decide))
  have e15 : z_Ar M2 15 = z_Ar M 15 := (X2.2.a k15 (by decide)).trans (X1.2.a k15 (by decide))
  rw [c49, c50] at r2
  rw [← d16] at l1 l2
  rw [c51] at m1 m2
  have hx1 : 0 ≤ x1.toInt → x1.toInt ≤ 5 → z_shf M x1.toNatClampNeg := fun a b => hR.2.1 _ (by unfold Int32.toNatClampNeg; omega)
  unfold z_shf at hx1
  have hx3 : 0 ≤ x3.toInt → x3.toInt ≤ 5 → z_shf M x3.toNatClampNeg := fun a b => hR.2.1 _ (by unfold Int32.toNatClampNeg; omega)
  unfold z_shf at hx3
  have tx1 : 0 ≤ x1.toInt → x1.toInt ≤ 5 → ((z_Ar M 14 x1.toNatClampNeg).toInt = -1 ∧ (z_Ar M 49 x1.toNatClampNeg).toInt = -1) ∨ ((z_Ar M 14 x1.toNatClampNeg).toInt = 5 ∧ 0 ≤ (z_Ar M 49 x1.toNatClampNeg).toInt ∧ (z_Ar M 49 x1.toNatClampNeg).toInt < 20) ∨ (0 ≤ (z_Ar M 14 x1.toNatClampNeg).toInt ∧ (z_Ar M 14 x1.toNatClampNeg).toInt ≤ 4 ∧ (z_Ar M 49 x1.toNatClampNeg).toInt = 20 + (z_Ar M 14 x1.toNatClampNeg).toInt ∧ (z_Ar M 50 x1.toNatClampNeg).toInt = (z_Ar M 15 x1.toNatClampNeg).toInt) := by
    intro a b
    rcases hx1 a b with ⟨q1, q2⟩ | ⟨q1, i, q2, q3, _⟩ | ⟨q1, q2, q3, q4, _⟩
    · exact Or.inl ⟨q1, q2⟩
    · exact Or.inr (Or.inl ⟨q1, by omega, by omega⟩)
    · exact Or.inr (Or.inr ⟨q1, q2, q3, q4⟩)
  have tx3 : 0 ≤ x3.toInt → x3.toInt ≤ 5 → ((z_Ar M 14 x3.toNatClampNeg).toInt = -1 ∧ (z_Ar M 49 x3.toNatClampNeg).toInt = -1) ∨ ((z_Ar M 14 x3.toNatClampNeg).toInt = 5 ∧ 0 ≤ (z_Ar M 49 x3.toNatClampNeg).toInt ∧ (z_Ar M 49 x3.toNatClampNeg).toInt < 20) ∨ (0 ≤ (z_Ar M 14 x3.toNatClampNeg).toInt ∧ (z_Ar M 14 x3.toNatClampNeg).toInt ≤ 4 ∧ (z_Ar M 49 x3.toNatClampNeg).toInt = 20 + (z_Ar M 14 x3.toNatClampNeg).toInt ∧ (z_Ar M 50 x3.toNatClampNeg).toInt = (z_Ar M 15 x3.toNatClampNeg).toInt) := by
    intro a b
    rcases hx3 a b with ⟨q1, q2⟩ | ⟨q1, i, q2, q3, _⟩ | ⟨q1, q2, q3, q4, _⟩
    · exact Or.inl ⟨q1, q2⟩
    · exact Or.inr (Or.inl ⟨q1, by omega, by omega⟩)
    · exact Or.inr (Or.inr ⟨q1, q2, q3, q4⟩)
  clear hx1 hx3
  have e : y.toInt = z.toInt := by
    by_cases hr : 0 ≤ x1.toInt ∧ x1.toInt ≤ 5 ∧ 0 ≤ x3.toInt ∧ x3.toInt ≤ 5
    · have q := tx1 hr.1 hr.2.1
      have q3 := tx3 hr.2.2.1 hr.2.2.2
      omega
    · omega
  have h4 : z_R4 M2 := by
    by_cases hy : 0 ≤ y.toInt
    · have q1 := tx1 (by omega) (by omega)
      refine hR.2.2.cpy e14 e15 (l1 hy) (m1 (by omega)) (by omega) (by unfold Int32.toNatClampNeg at q1 r1; omega) (by unfold Int32.toNatClampNeg at q1 r1; omega) ?_
      unfold Int32.toNatClampNeg at q1 r1
      omega
    · exact hR.2.2.same e14 e15 (l2 (by omega)) (m2 (by omega))
  exact ⟨⟨z, rfl⟩, by rw [Int32.toInt_inj.mp e], ⟨T, z_kee (z_kee hA X1 (by decide)) X2 (by decide), (hR.1.ke hW (fun _ _ h => h) X1.2 rfl).ke X1.1 (fun _ _ h => h) X2.2 rfl, z_R2a.same2 hR.2.1 hW X1 X2 (by decide) (by decide), h4⟩, X2.1.1.trans X1.1.1.symm, z_kep X2 (by decide)⟩
def z_Q31 (I : zH → Prop) : Prop := ∀ (x1 : Int32) (x2 : Int32) (M : zH), I M → z_ev 2046 175 0 (z_ent [.ref 4, .int x1, .int x2] (z_ml 175)) [] M fun v M1 => (∃ y, v = some (.int y)) ∧ z_ev 2046 284 0 (z_ent [.ref 19, .int x1, .int x2] (z_ml 284)) [] M1 fun v2 M2 => (∃ y, v2 = some (.int y)) ∧ v = v2 ∧ I M2 ∧ M2.length ≤ M.length + 1171 ∧ z_szr M2 ≤ z_szr M + 14000
theorem zSA31 : z_Q31 z_JA := by
  intro x1 x2 M ⟨T, hA, hR⟩
  have hW := hA.1.1
  have k4 : T[4]? = some (.inl (0, 0, 0, 0, 0)) := hW.k rfl (by decide)
  have k12 := hW.k (k := 12) (κ := .inr (12, 3, 20, 0, 0)) rfl (by decide)
  have k14 := hW.k (k := 14) (κ := z_ai 14 6 (-1) 5) rfl (by decide)
  have k15 := hW.k (k := 15) (κ := z_ai 15 6 0 60) rfl (by decide)
  have k17 := hW.k (k := 17) (κ := .inr (17, 3, 6, 0, 0)) rfl (by decide)
  have k49 := hW.k (k := 49) (κ := z_ai 49 6 (-1) 24) rfl (by decide)
  have k50 := hW.k (k := 50) (κ := z_ai 50 6 0 60) rfl (by decide)
  have k16 := hW.k (k := 16) (κ := z_al 16 360) rfl (by decide)
  have k51 := hW.k (k := 51) (κ := z_al 51 360) rfl (by decide)
  obtain ⟨w, hw, w0, w1⟩ : ∃ w : Int32, z_F M 4 5 = some (.int w) ∧ 0 ≤ w.toInt ∧ w.toInt ≤ 20 := hW.fi k4 (by decide) rfl
  refine z_twoG (C := fun v v2 => v = v2) ?_
  rw [zzm175]
  show z_ev 2046 175 0 [some (.ref 4), some (.int x1), some (.int x2)] [] M _
  refine zRC175 (d := 2045) hW hw ⟨w0, w1⟩ hA.1 fun y M1 X1 _ _ r1 a14 b14 a17 b17 u1 hu1 _ ru1 => ?_
  have hB := z_kee hA X1 (by decide)
  refine ⟨⟨y, rfl⟩, Or.inl ⟨X1.1.1.trans hW.1.symm, z_kep X1 (by decide)⟩, ?_⟩
  rw [zzm284]
  show z_ev 2046 284 0 [some (.ref 19), some (.int x1), some (.int x2)] [] M1 _
  refine zRC284 (d := 2044) hB.1.1 (hB.2.2.2.symm.trans hu1) ⟨by omega, by omega⟩ fun z M2 X2 _ _ r2 a49 b49 a50 b50 u2 _ _ _ => ?_
  have e : y.toInt = z.toInt := by
    clear a14 a49 a50 a17
    omega
  have hC := z_kee hB X2 (by decide)
  have e45 : z_F M2 4 5 = z_F M 4 5 := (X2.2.1 4 0 0 0 0 0 5 k4 (by decide)).trans (X1.2.1 4 0 0 0 0 0 5 k4 (by decide))
  have e12 : z_O M2 12 = z_O M 12 := (X2.2.o k12 (by decide)).trans (X1.2.o k12 (by decide))
  have c14 : z_Ar M2 14 = z_Ar M1 14 := X2.2.a k14 (by decide)
  have c15 : z_Ar M2 15 = z_Ar M1 15 := X2.2.a k15 (by decide)
  have c17 : z_O M2 17 = z_O M1 17 := X2.2.o k17 (by decide)
  have d49 : z_Ar M1 49 = z_Ar M 49 := X1.2.a k49 (by decide)
  have d50 : z_Ar M1 50 = z_Ar M 50 := X1.2.a k50 (by decide)
  have c16 := X2.2.lg k16 (by decide)
  have d51 := X1.2.lg k51 (by decide)
  have d16 := X1.2.lg k16 (by decide)
  have c51 := X2.2.lg k51 (by decide)
  have d15 : z_Ar M1 15 = z_Ar M 15 := X1.2.a k15 (by decide)
  have h2 : z_R2 M2 := by
    by_cases hy : y.toInt = 1
    · have hz : z.toInt = 1 := by rw [← e]; exact hy
      obtain ⟨v14, q14, f14⟩ := a14 hy
      obtain ⟨v49, q49, f49⟩ := a49 hz
      obtain ⟨v50, q50, f50⟩ := a50 hz
      obtain ⟨o17, q17, f17⟩ := a17 hy
      clear a14 a49 a50 a17
      rw [← c14] at f14
      rw [← c17] at f17
      rw [d49] at f49
      rw [d50] at f50
      refine ⟨hR.2.1.put (k := x1.toNatClampNeg) e45 e12 (fun d hd => z_updn f14 hd) (fun d hd => by rw [c15, d15]) (fun d hd => z_updRn f17 hd) (fun d hd => z_updn f49 hd) (fun d hd => z_updn f50 hd) ?_, hR.2.2.sort (k := x1.toNatClampNeg) (fun d hd => z_updn f14 hd) (by rw [z_upds f14]; omega) (c15.trans d15) (c16.trans d16) (c51.trans d51)⟩
      unfold z_shf
      rw [z_upds f14, z_upds f49, z_upds f50]
      by_cases hx : x2.toInt = -1
      · exact Or.inl ⟨by omega, by omega⟩
      · exact Or.inr (Or.inl ⟨by omega, x2.toNatClampNeg, by unfold Int32.toNatClampNeg; omega, by unfold Int32.toNatClampNeg; omega, trivial⟩)
    · have hz : z.toInt ≠ 1 := by rw [← e]; exact hy
      have f14 := c14.trans (b14 hy)
      have f17 := c17.trans (b17 hy)
      have f49 := (b49 hz).trans d49
      have f50 := (b50 hz).trans d50
      have f15 : z_Ar M2 15 = z_Ar M 15 := c15.trans d15
      refine ⟨?_, hR.2.2.same f14 f15 (c16.trans d16) (c51.trans d51)⟩
      intro d hd
      unfold z_shf
      rw [f14, f15, f49, f50]
      exact hR.2.1 d hd
  exact ⟨⟨z, rfl⟩, by rw [Int32.toInt_inj.mp e], ⟨T, hC, (hR.1.ke hW (fun _ _ h => h) X1.2 rfl).ke X1.1 (fun _ _ h => h) X2.2 rfl, h2⟩, X2.1.1.trans X1.1.1.symm, z_kep X2 (by decide)⟩
def z_Q32 (I : zH → Prop) : Prop := ∀ (x1 : Int32) (x2 : Int32) (x3 : Int32) (M : zH), I M → z_ev 2046 176 0 (z_ent [.ref 4, .int x1, .int x2, .int x3] (z_ml 176)) [] M fun v M1 => (∃ y, v = some (.int y)) ∧ z_ev 2046 285 0 (z_ent [.ref 19, .int x1, .int x2, .int x3] (z_ml 285)) [] M1 fun v2 M2 => (∃ y, v2 = some (.int y)) ∧ v = v2 ∧ I M2 ∧ M2.length ≤ M.length + 1171 ∧ z_szr M2 ≤ z_szr M + 14000
theorem zSA32 : z_Q32 z_JA := by
  intro x1 x2 x3 M ⟨T, hA, hR⟩
  have hW := hA.1.1
  have k4 : T[4]? = some (.inl (0, 0, 0, 0, 0)) := hW.k rfl (by decide)
  have k12 := hW.k (k := 12) (κ := .inr (12, 3, 20, 0, 0)) rfl (by decide)
  have k14 := hW.k (k := 14) (κ := z_ai 14 6 (-1) 5) rfl (by decide)
  have k15 := hW.k (k := 15) (κ := z_ai 15 6 0 60) rfl (by decide)
  have k17 := hW.k (k := 17) (κ := .inr (17, 3, 6, 0, 0)) rfl (by decide)
  have k49 := hW.k (k := 49) (κ := z_ai 49 6 (-1) 24) rfl (by decide)
  have k50 := hW.k (k := 50) (κ := z_ai 50 6 0 60) rfl (by decide)
  have k16 := hW.k (k := 16) (κ := z_al 16 360) rfl (by decide)
  have k51 := hW.k (k := 51) (κ := z_al 51 360) rfl (by decide)
  refine z_twoG (C := fun v v2 => v = v2) ?_
  rw [zzm176]
  show z_ev 2046 176 0 [some (.ref 4), some (.int x1), some (.int x2), some (.int x3)] [] M _
  refine zRC176 (d := 2044) hW fun y M1 X1 _ _ r1 a14 b14 a15 b15 a17 b17 l1 l2 => ?_
  have hB := z_kee hA X1 (by decide)
  refine ⟨⟨y, rfl⟩, Or.inl ⟨X1.1.1.trans hW.1.symm, z_kep X1 (by decide)⟩, ?_⟩
  rw [zzm285]
  show z_ev 2046 285 0 [some (.ref 19), some (.int x1), some (.int x2), some (.int x3), none] [] M1 _
  refine zRC285 (d := 2044) hB.1.1 fun z M2 X2 _ _ r2 a49 b49 a50 b50 m1 m2 => ?_
  have e : y.toInt = z.toInt := by
    clear a14 a49 a50 a15
    omega
  have hC := z_kee hB X2 (by decide)
  have e45 : z_F M2 4 5 = z_F M 4 5 := (X2.2.1 4 0 0 0 0 0 5 k4 (by decide)).trans (X1.2.1 4 0 0 0 0 0 5 k4 (by decide))
  have e12 : z_O M2 12 = z_O M 12 := (X2.2.o k12 (by decide)).trans (X1.2.o k12 (by decide))
  have c14 : z_Ar M2 14 = z_Ar M1 14 := X2.2.a k14 (by decide)
  have c15 : z_Ar M2 15 = z_Ar M1 15 := X2.2.a k15 (by decide)
  have c17 : z_O M2 17 = z_O M1 17 := X2.2.o k17 (by decide)
  have d49 : z_Ar M1 49 = z_Ar M 49 := X1.2.a k49 (by decide)
  have d50 : z_Ar M1 50 = z_Ar M 50 := X1.2.a k50 (by decide)
  have c16 := X2.2.lg k16 (by decide)
  have d51 := X1.2.lg k51 (by decide)
  have h2 : z_R2 M2 := by
    by_cases hy : y.toInt = 1
    · have hz : z.toInt = 1 := by rw [← e]; exact hy
      obtain ⟨v14, q14, f14⟩ := a14 hy
      obtain ⟨v49, q49, f49⟩ := a49 hz
      obtain ⟨v50, q50, f50⟩ := a50 hz
      obtain ⟨v15, q15, f15⟩ := a15 hy
      have f17 := a17 hy
      clear a14 a49 a50 a15
      rw [← c14] at f14
      rw [← c17] at f17
      rw [d49] at f49
      rw [d50] at f50
      rw [← c15] at f15
      refine ⟨hR.2.1.put (k := x1.toNatClampNeg) e45 e12 (fun d hd => z_updn f14 hd) (fun d hd => z_updn f15 hd) (fun d hd => z_updRn f17 hd) (fun d hd => z_updn f49 hd) (fun d hd => z_updn f50 hd) ?_, hR.2.2.row (k := x1.toNatClampNeg) (n := x3.toInt.toNat) (fun d hd => z_updn f14 hd) (fun d hd => z_updn f15 hd) (by rw [z_upds f15]; omega) (by omega) (fun d hd => by rw [(hW.ai k15 (by decide)).choose_spec.2.1]; exact ((hW.ai k15 (by decide)).choose_spec.2.2 d hd).2) (c16.trans (l1 hy)) ((m1 hz).trans (z_filc d51 rfl rfl))⟩
      unfold z_shf
      rw [z_upds f14, z_upds f49, z_upds f50, z_upds f15]
      exact Or.inr (Or.inr ⟨by omega, by omega, by omega, by omega, trivial⟩)
    · have hz : z.toInt ≠ 1 := by rw [← e]; exact hy
      have f14 := c14.trans (b14 hy)
      have f17 := c17.trans (b17 hy)
      have f49 := (b49 hz).trans d49
      have f50 := (b50 hz).trans d50
      have f15 : z_Ar M2 15 = z_Ar M 15 := c15.trans (b15 hy)
      refine ⟨?_, hR.2.2.same f14 f15 (c16.trans (l2 hy)) ((m2 hz).trans d51)⟩
      intro d hd
      unfold z_shf
      rw [f14, f15, f49, f50]
      exact hR.2.1 d hd
  exact ⟨⟨z, rfl⟩, by rw [Int32.toInt_inj.mp e], ⟨T, hC, (hR.1.ke hW (fun _ _ h => h) X1.2 rfl).ke X1.1 (fun _ _ h => h) X2.2 rfl, h2⟩, X2.1.1.trans X1.1.1.symm, z_kep X2 (by decide)⟩
theorem zJA1 : z_P1 z_JA := by
  intro M ⟨T, hA, hR⟩
  refine z_twoG (C := fun _ _ => True) ?_
  rw [zzm5]
  show z_ev 2046 5 0 [some (.ref 4), none, none] [] M _
  refine zT5 hA (fun y T1 M1 hB hp1 ke hp hs => ?_)
  have hR1 := hR.ke hA.1.1 hp1 ke rfl
  refine ⟨⟨y, rfl⟩, ?_, ?_⟩
  · unfold z_szr
    rcases hs with h | ⟨h, h2⟩
    · exact Or.inl ⟨h, hp⟩
    · exact Or.inr ⟨by omega, by omega⟩
  rw [zzm190]
  show z_ev 2046 190 0 [some (.ref 19), none, none, none, none, none] [] M1 _
  refine zQC190 (d := 1073) hB.1.1 hB.2.1 hB.2.2.1 (fun z M2 X2 hgl hg4 => ?_)
  have k4 : T1[4]? = some (.inl (0, 0, 0, 0, 0)) := hB.1.1.k rfl (by decide)
  have k19 : T1[19]? = some (.inl (12, 0, 0, 0, 0)) := hB.1.1.k rfl (by decide)
  refine ⟨⟨z, rfl⟩, trivial, ⟨T1, ⟨hB.1.go X2 (by decide), hgl, hg4, ?_⟩, hR1.go hB.1.1 X2 rfl⟩, X2.1.1.trans hB.1.1.1.symm, z_kep X2 (by decide)⟩
  rw [X2.2.1 4 0 0 0 0 0 5 k4 (by decide), X2.2.1 19 12 0 0 0 0 21 k19 (by decide)]
  exact hB.2.2.2
theorem zJA24 : z_P24 z_JA := by
  intro x1 x2 x3 M ⟨T, hA, hR⟩
  refine z_twoG (C := fun _ _ => True) ?_
  have H2 : ∀ (T1 : List zK) (M1 : zH), z_inv T1 M1 → z_RRA T1 M1 → z_ev 2046 263 0 (z_ent [.ref 19, .int x1, .int x2, .int x3] (z_ml 263)) [] M1 fun v2 M2 => (∃ y, v2 = some (.int y)) ∧ True ∧ z_JA M2 ∧ M2.length = M1.length ∧ z_pot M2 = z_pot M1 := by
    intro T1 M1 hB hS
    rw [zzm263]
    show z_ev 2046 263 0 [some (.ref 19), some (.int x1), some (.int x2), some (.int x3), none, none, none, none, none] [] M1 _
    refine zC263 hB.1.1 hB.2.2.1 fun z M2 X2  => ?_
    exact ⟨⟨z, rfl⟩, trivial, ⟨T1, z_kee hB X2 (by decide), hS.go hB.1.1 X2 rfl⟩, X2.1.1.trans hB.1.1.1.symm, z_kep X2 (by decide)⟩
  rw [zzm119]
  show z_ev 2046 119 0 [some (.ref 4), some (.int x1), some (.int x2), some (.int x3), none, none] [] M _
  refine zC119 hA.1.1 (fun b c A h1 h2 h3 h4 h5 h6 h7 h8 h9 => ?_) hA.1 (fun y M1 X1 => ⟨⟨y, rfl⟩, Or.inl ⟨X1.1.1.trans hA.1.1.1.symm, z_kep X1 (by decide)⟩, H2 T M1 (z_kee hA X1 (by decide)) (hR.go hA.1.1 X1 rfl)⟩)
  refine zT119 hA.1 h1 h2 h3 h4 h5 h6 h7 h8 (fun y M3 hW1 X3 h e2 => ?_)
  have hB := z_new4 hA (z_same.push hA.1.1) hW1
  have hS := hR.push hA.1.1 hW1
  refine ⟨⟨y, rfl⟩, Or.inr ?_, H2 _ M3 (z_kee hB X3 (by decide)) (hS.go hW1 X3 rfl)⟩
  have e1 : M3.length = M.length + 1 := by rw [X3.1.1, List.length_append, hA.1.1.1]; rfl
  have e3 : z_pot M = 16400 := by rw [z_poth, h9]
  have e4 : z_pot M3 = 0 := by rw [z_poth, h]
  unfold z_szr
  exact ⟨by omega, by omega⟩
