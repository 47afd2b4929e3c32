/-! put, shift, keep, row: both answers the same; agenda, twisted -/
theorem z_updn {f g : Nat → Int32} {k d : Nat} {v : Int32} (h : f = upd g k v) (hd : d ≠ k) : f d = g d := by
  rw [h]
  show (if d = k then v else g d) = g d
  exact if_neg hd
theorem z_upds {f g : Nat → Int32} {k : Nat} {v : Int32} (h : f = upd g k v) : f k = v := by
  rw [h]
  show (if k = k then v else g k) = v
  exact if_pos rfl
theorem z_updRn {f g : Nat → Option Nat} {k d : Nat} {v : Option Nat} (h : f = z_updR g k v) (hd : d ≠ k) : f d = g d := by
  rw [h]
  unfold z_updR
  exact if_neg hd
theorem z_updRs {f g : Nat → Option Nat} {k : Nat} {v : Option Nat} (h : f = z_updR g k v) : f k = v := by
  rw [h]
  unfold z_updR
  exact if_pos rfl
theorem z_R2.put {M M2 : zH} {k : Nat} (h : z_R2 M) (e45 : z_F M2 4 5 = z_F M 4 5) (e12 : z_O M2 12 = z_O M 12) (h14 : ∀ d, d ≠ k → z_Ar M2 14 d = z_Ar M 14 d) (h15 : ∀ d, d ≠ k → z_Ar M2 15 d = z_Ar M 15 d) (h17 : ∀ d, d ≠ k → z_O M2 17 d = z_O M 17 d) (h49 : ∀ d, d ≠ k → z_Ar M2 49 d = z_Ar M 49 d) (h50 : ∀ d, d ≠ k → z_Ar M2 50 d = z_Ar M 50 d) (hp : z_shf M2 k) : z_R2 M2 := fun d hd => by
  by_cases e : d = k
  · rw [e]; exact hp
  · unfold z_shf
    rw [e45, e12, h14 d e, h15 d e, h17 d e, h49 d e, h50 d e]
    exact h d hd
def z_Q33 (I : zH → Prop) : Prop := ∀ (x1 : Int32) (x2 : Int32) (x3 : Int64) (M : zH), I M → z_ev 2046 177 0 (z_ent [.ref 4, .int x1, .int x2, .long x3] (z_ml 177)) [] M fun v M1 => (∃ y, v = some (.int y)) ∧ z_ev 2046 286 0 (z_ent [.ref 19, .int x1, .int x2, .long x3] (z_ml 286)) [] M1 fun v2 M2 => (∃ y, v2 = some (.int y)) ∧ v = v2 ∧ I M2 ∧ M2.length ≤ M.length + 1171 ∧ z_szr M2 ≤ z_szr M + 14000
theorem zS33 : z_Q33 z_J := by
  intro x1 x2 x3 M ⟨T, hA, hR⟩
  have hW := hA.1.1
  have k4 : T[4]? = some (.inl (0, 0, 0, 0, 0)) := hW.k rfl (by decide)
  have k12 := hW.k (k := 12) (κ := .inr (12, 3, 20, 0, 0)) rfl (by decide)
  have k14 := hW.k (k := 14) (κ := z_ai 14 6 (-1) 5) rfl (by decide)
  have k15 := hW.k (k := 15) (κ := z_ai 15 6 0 60) rfl (by decide)
  have k17 := hW.k (k := 17) (κ := .inr (17, 3, 6, 0, 0)) rfl (by decide)
  have k49 := hW.k (k := 49) (κ := z_ai 49 6 (-1) 24) rfl (by decide)
  have k50 := hW.k (k := 50) (κ := z_ai 50 6 0 60) rfl (by decide)
  refine z_J.two (r1 := zw177) (r2 := zw286) (C := fun v v2 => v = v2) hA hR rfl rfl ?_
  rw [zzm177]
  show z_ev 2046 177 0 [some (.ref 4), some (.int x1), some (.int x2), some (.long x3), none, none] [] M _
  refine zRC177 (d := 2044) hW fun y M1 X1 _ _ r1 => ?_
  refine ⟨⟨y, rfl⟩, X1, ?_⟩
  rw [zzm286]
  show z_ev 2046 286 0 [some (.ref 19), some (.int x1), some (.int x2), some (.long x3), none, none] [] M1 _
  refine zRC286 (d := 2043) X1.1 fun z M2 X2 _ _ r2 => ?_
  rw [X1.2.a k49 (by decide), X1.2.a k50 (by decide)] at r2
  have hx1 : 0 ≤ x1.toInt → x1.toInt ≤ 5 → z_shf M x1.toNatClampNeg := fun a b => hR.2.2 _ (by unfold Int32.toNatClampNeg; omega)
  unfold z_shf at hx1
  have tx1 : 0 ≤ x1.toInt → x1.toInt ≤ 5 → ((z_Ar M 14 x1.toNatClampNeg).toInt = -1 ∧ (z_Ar M 49 x1.toNatClampNeg).toInt = -1) ∨ ((z_Ar M 14 x1.toNatClampNeg).toInt = 5 ∧ 0 ≤ (z_Ar M 49 x1.toNatClampNeg).toInt ∧ (z_Ar M 49 x1.toNatClampNeg).toInt < 20) ∨ (0 ≤ (z_Ar M 14 x1.toNatClampNeg).toInt ∧ (z_Ar M 14 x1.toNatClampNeg).toInt ≤ 4 ∧ (z_Ar M 49 x1.toNatClampNeg).toInt = 20 + (z_Ar M 14 x1.toNatClampNeg).toInt ∧ (z_Ar M 50 x1.toNatClampNeg).toInt = (z_Ar M 15 x1.toNatClampNeg).toInt) := by
    intro a b
    rcases hx1 a b with ⟨q1, q2⟩ | ⟨q1, i, q2, q3, _⟩ | ⟨q1, q2, q3, q4, _⟩
    · exact Or.inl ⟨q1, q2⟩
    · exact Or.inr (Or.inl ⟨q1, by omega, by omega⟩)
    · exact Or.inr (Or.inr ⟨q1, q2, q3, q4⟩)
  generalize (z_Ar M 14 x1.toNatClampNeg).toInt = g14x1 at *
  generalize (z_Ar M 15 x1.toNatClampNeg).toInt = g15x1 at *
  generalize (z_Ar M 49 x1.toNatClampNeg).toInt = g49x1 at *
  generalize (z_Ar M 50 x1.toNatClampNeg).toInt = g50x1 at *
  have e : y.toInt = z.toInt := by
    by_cases hr : 0 ≤ x1.toInt ∧ x1.toInt ≤ 5
    · have q := tx1 hr.1 hr.2
      omega
    · omega
  exact ⟨⟨z, rfl⟩, by rw [Int32.toInt_inj.mp e], X2⟩
def z_Q35 (I : zH → Prop) : Prop := ∀ (x1 : Int32) (x2 : Int32) (x3 : Int32) (x4 : Int32) (x5 : Int32) (M : zH), I M → z_ev 2046 181 0 (z_ent [.ref 4, .int x1, .int x2, .int x3, .int x4, .int x5] (z_ml 181)) [] M fun v M1 => (∃ y, v = some (.int y)) ∧ z_ev 2046 290 0 (z_ent [.ref 19, .int x1, .int x2, .int x3, .int x4, .int x5] (z_ml 290)) [] M1 fun v2 M2 => (∃ y, v2 = some (.int y)) ∧ v = v2 ∧ I M2 ∧ M2.length ≤ M.length + 1171 ∧ z_szr M2 ≤ z_szr M + 14000
theorem zS35 : z_Q35 z_J := by
  intro x1 x2 x3 x4 x5 M ⟨T, hA, hR⟩
  have hW := hA.1.1
  have k4 : T[4]? = some (.inl (0, 0, 0, 0, 0)) := hW.k rfl (by decide)
  have k12 := hW.k (k := 12) (κ := .inr (12, 3, 20, 0, 0)) rfl (by decide)
  have k14 := hW.k (k := 14) (κ := z_ai 14 6 (-1) 5) rfl (by decide)
  have k15 := hW.k (k := 15) (κ := z_ai 15 6 0 60) rfl (by decide)
  have k17 := hW.k (k := 17) (κ := .inr (17, 3, 6, 0, 0)) rfl (by decide)
  have k49 := hW.k (k := 49) (κ := z_ai 49 6 (-1) 24) rfl (by decide)
  have k50 := hW.k (k := 50) (κ := z_ai 50 6 0 60) rfl (by decide)
  refine z_J.two (r1 := zw181) (r2 := zw290) (C := fun v v2 => v = v2) hA hR rfl rfl ?_
  rw [zzm181]
  show z_ev 2046 181 0 [some (.ref 4), some (.int x1), some (.int x2), some (.int x3), some (.int x4), some (.int x5)] [] M _
  refine zRC181 (d := 2045) hW fun y M1 X1 _ _ r1 => ?_
  refine ⟨⟨y, rfl⟩, X1, ?_⟩
  rw [zzm290]
  show z_ev 2046 290 0 [some (.ref 19), some (.int x1), some (.int x2), some (.int x3), some (.int x4), some (.int x5), none] [] M1 _
  refine zRC290 (d := 2044) X1.1 fun z M2 X2 _ _ r2 => ?_
  rw [X1.2.a k49 (by decide), X1.2.a k50 (by decide)] at r2
  have hx1 : 0 ≤ x1.toInt → x1.toInt ≤ 5 → z_shf M x1.toNatClampNeg := fun a b => hR.2.2 _ (by unfold Int32.toNatClampNeg; omega)
  unfold z_shf at hx1
  have hx3 : 0 ≤ x3.toInt → x3.toInt ≤ 5 → z_shf M x3.toNatClampNeg := fun a b => hR.2.2 _ (by unfold Int32.toNatClampNeg; omega)
  unfold z_shf at hx3
  have tx1 : 0 ≤ x1.toInt → x1.toInt ≤ 5 → ((z_Ar M 14 x1.toNatClampNeg).toInt = -1 ∧ (z_Ar M 49 x1.toNatClampNeg).toInt = -1) ∨ ((z_Ar M 14 x1.toNatClampNeg).toInt = 5 ∧ 0 ≤ (z_Ar M 49 x1.toNatClampNeg).toInt ∧ (z_Ar M 49 x1.toNatClampNeg).toInt < 20) ∨ (0 ≤ (z_Ar M 14 x1.toNatClampNeg).toInt ∧ (z_Ar M 14 x1.toNatClampNeg).toInt ≤ 4 ∧ (z_Ar M 49 x1.toNatClampNeg).toInt = 20 + (z_Ar M 14 x1.toNatClampNeg).toInt ∧ (z_Ar M 50 x1.toNatClampNeg).toInt = (z_Ar M 15 x1.toNatClampNeg).toInt) := by
    intro a b
    rcases hx1 a b with ⟨q1, q2⟩ | ⟨q1, i, q2, q3, _⟩ | ⟨q1, q2, q3, q4, _⟩
    · exact Or.inl ⟨q1, q2⟩
    · exact Or.inr (Or.inl ⟨q1, by omega, by omega⟩)
    · exact Or.inr (Or.inr ⟨q1, q2, q3, q4⟩)
  have tx3 : 0 ≤ x3.toInt → x3.toInt ≤ 5 → ((z_Ar M 14 x3.toNatClampNeg).toInt = -1 ∧ (z_Ar M 49 x3.toNatClampNeg).toInt = -1) ∨ ((z_Ar M 14 x3.toNatClampNeg).toInt = 5 ∧ 0 ≤ (z_Ar M 49 x3.toNatClampNeg).toInt ∧ (z_Ar M 49 x3.toNatClampNeg).toInt < 20) ∨ (0 ≤ (z_Ar M 14 x3.toNatClampNeg).toInt ∧ (z_Ar M 14 x3.toNatClampNeg).toInt ≤ 4 ∧ (z_Ar M 49 x3.toNatClampNeg).toInt = 20 + (z_Ar M 14 x3.toNatClampNeg).toInt ∧ (z_Ar M 50 x3.toNatClampNeg).toInt = (z_Ar M 15 x3.toNatClampNeg).toInt) := by
    intro a b
    rcases hx3 a b with ⟨q1, q2⟩ | ⟨q1, i, q2, q3, _⟩ | ⟨q1, q2, q3, q4, _⟩
    · exact Or.inl ⟨q1, q2⟩
    · exact Or.inr (Or.inl ⟨q1, by omega, by omega⟩)
    · exact Or.inr (Or.inr ⟨q1, q2, q3, q4⟩)
  generalize (z_Ar M 14 x1.toNatClampNeg).toInt = g14x1 at *
  generalize (z_Ar M 15 x1.toNatClampNeg).toInt = g15x1 at *
  generalize (z_Ar M 49 x1.toNatClampNeg).toInt = g49x1 at *
  generalize (z_Ar M 50 x1.toNatClampNeg).toInt = g50x1 at *
  generalize (z_Ar M 14 x3.toNatClampNeg).toInt = g14x3 at *
  generalize (z_Ar M 15 x3.toNatClampNeg).toInt = g15x3 at *
  generalize (z_Ar M 49 x3.toNatClampNeg).toInt = g49x3 at *
  generalize (z_Ar M 50 x3.toNatClampNeg).toInt = g50x3 at *
  have e : y.toInt = z.toInt := by
    by_cases hr : 0 ≤ x1.toInt ∧ x1.toInt ≤ 5 ∧ 0 ≤ x3.toInt ∧ x3.toInt ≤ 5
    · have q := tx1 hr.1 hr.2.1
      have q3 := tx3 hr.2.2.1 hr.2.2.2
      omega
    · omega
  exact ⟨⟨z, rfl⟩, by rw [Int32.toInt_inj.mp e], X2⟩
def z_Q31 (I : zH → Prop) : Prop := ∀ (x1 : Int32) (x2 : Int32) (M : zH), I M → z_ev 2046 175 0 (z_ent [.ref 4, .int x1, .int x2] (z_ml 175)) [] M fun v M1 => (∃ y, v = some (.int y)) ∧ z_ev 2046 284 0 (z_ent [.ref 19, .int x1, .int x2] (z_ml 284)) [] M1 fun v2 M2 => (∃ y, v2 = some (.int y)) ∧ v = v2 ∧ I M2 ∧ M2.length ≤ M.length + 1171 ∧ z_szr M2 ≤ z_szr M + 14000
theorem zS31 : z_Q31 z_J := by
  intro x1 x2 M ⟨T, hA, hR⟩
  have hW := hA.1.1
  have k4 : T[4]? = some (.inl (0, 0, 0, 0, 0)) := hW.k rfl (by decide)
  have k12 := hW.k (k := 12) (κ := .inr (12, 3, 20, 0, 0)) rfl (by decide)
  have k14 := hW.k (k := 14) (κ := z_ai 14 6 (-1) 5) rfl (by decide)
  have k15 := hW.k (k := 15) (κ := z_ai 15 6 0 60) rfl (by decide)
  have k17 := hW.k (k := 17) (κ := .inr (17, 3, 6, 0, 0)) rfl (by decide)
  have k49 := hW.k (k := 49) (κ := z_ai 49 6 (-1) 24) rfl (by decide)
  have k50 := hW.k (k := 50) (κ := z_ai 50 6 0 60) rfl (by decide)
  obtain ⟨w, hw, w0, w1⟩ : ∃ w : Int32, z_F M 4 5 = some (.int w) ∧ 0 ≤ w.toInt ∧ w.toInt ≤ 20 := hW.fi k4 (by decide) rfl
  refine z_twoG (C := fun v v2 => v = v2) ?_
  rw [zzm175]
  show z_ev 2046 175 0 [some (.ref 4), some (.int x1), some (.int x2)] [] M _
  refine zRC175 (d := 2045) hW hw ⟨w0, w1⟩ hA.1 fun y M1 X1 _ _ r1 a14 b14 a17 b17 u1 hu1 _ ru1 => ?_
  have hB := z_kee hA X1 (by decide)
  refine ⟨⟨y, rfl⟩, Or.inl ⟨X1.1.1.trans hW.1.symm, z_kep X1 (by decide)⟩, ?_⟩
  rw [zzm284]
  show z_ev 2046 284 0 [some (.ref 19), some (.int x1), some (.int x2)] [] M1 _
  refine zRC284 (d := 2044) hB.1.1 (hB.2.2.2.symm.trans hu1) ⟨by omega, by omega⟩ fun z M2 X2 _ _ r2 a49 b49 a50 b50 u2 _ _ _ => ?_
  have e : y.toInt = z.toInt := by omega
  have hC := z_kee hB X2 (by decide)
  have e45 : z_F M2 4 5 = z_F M 4 5 := (X2.2.1 4 0 0 0 0 0 5 k4 (by decide)).trans (X1.2.1 4 0 0 0 0 0 5 k4 (by decide))
  have e12 : z_O M2 12 = z_O M 12 := (X2.2.o k12 (by decide)).trans (X1.2.o k12 (by decide))
  have c14 : z_Ar M2 14 = z_Ar M1 14 := X2.2.a k14 (by decide)
  have c15 : z_Ar M2 15 = z_Ar M1 15 := X2.2.a k15 (by decide)
  have c17 : z_O M2 17 = z_O M1 17 := X2.2.o k17 (by decide)
  have d49 : z_Ar M1 49 = z_Ar M 49 := X1.2.a k49 (by decide)
  have d50 : z_Ar M1 50 = z_Ar M 50 := X1.2.a k50 (by decide)
  have d15 : z_Ar M1 15 = z_Ar M 15 := X1.2.a k15 (by decide)
  have h2 : z_R2 M2 := by
    by_cases hy : y.toInt = 1
    · have hz : z.toInt = 1 := by omega
      obtain ⟨v14, q14, f14⟩ := a14 hy
      obtain ⟨v49, q49, f49⟩ := a49 hz
      obtain ⟨v50, q50, f50⟩ := a50 hz
      obtain ⟨o17, q17, f17⟩ := a17 hy
      rw [← c14] at f14
      rw [← c17] at f17
      rw [d49] at f49
      rw [d50] at f50
      refine hR.2.2.put (k := x1.toNatClampNeg) e45 e12 (fun d hd => z_updn f14 hd) (fun d hd => by rw [c15, d15]) (fun d hd => z_updRn f17 hd) (fun d hd => z_updn f49 hd) (fun d hd => z_updn f50 hd) ?_
      unfold z_shf
      rw [z_upds f14, z_upds f49, z_upds f50, z_updRs f17, e45, e12]
      by_cases hx : x2.toInt = -1
      · exact Or.inl ⟨by omega, by omega⟩
      · refine Or.inr (Or.inl ⟨by omega, x2.toNatClampNeg, ?_, ?_, ?_, ?_⟩)
        · unfold Int32.toNatClampNeg; omega
        · unfold Int32.toNatClampNeg; omega
        · intro W hW2
          rw [hw] at hW2
          cases hW2
          unfold Int32.toNatClampNeg
          omega
        · rcases q17 with ⟨q, _⟩ | ⟨_, q⟩
          · exact absurd q hx
          · exact q
    · have hz : z.toInt ≠ 1 := by omega
      have f14 := c14.trans (b14 hy)
      have f17 := c17.trans (b17 hy)
      have f49 := (b49 hz).trans d49
      have f50 := (b50 hz).trans d50
      have f15 : z_Ar M2 15 = z_Ar M 15 := c15.trans d15
      intro d hd
      unfold z_shf
      rw [f14, f15, f17, f49, f50, e45, e12]
      exact hR.2.2 d hd
  exact ⟨⟨z, rfl⟩, by rw [Int32.toInt_inj.mp e], ⟨T, hC, (hR.1.ke hW X1.2 rfl).ke X1.1 X2.2 rfl, (hR.2.1.ke hW (fun _ _ h => h) X1.2 rfl).ke X1.1 (fun _ _ h => h) X2.2 rfl, h2⟩, X2.1.1.trans X1.1.1.symm, z_kep X2 (by decide)⟩
def z_Q32 (I : zH → Prop) : Prop := ∀ (x1 : Int32) (x2 : Int32) (x3 : Int32) (M : zH), I M → z_ev 2046 176 0 (z_ent [.ref 4, .int x1, .int x2, .int x3] (z_ml 176)) [] M fun v M1 => (∃ y, v = some (.int y)) ∧ z_ev 2046 285 0 (z_ent [.ref 19, .int x1, .int x2, .int x3] (z_ml 285)) [] M1 fun v2 M2 => (∃ y, v2 = some (.int y)) ∧ v = v2 ∧ I M2 ∧ M2.length ≤ M.length + 1171 ∧ z_szr M2 ≤ z_szr M + 14000
theorem zS32 : z_Q32 z_J := by
  intro x1 x2 x3 M ⟨T, hA, hR⟩
  have hW := hA.1.1
  have k4 : T[4]? = some (.inl (0, 0, 0, 0, 0)) := hW.k rfl (by decide)
  have k12 := hW.k (k := 12) (κ := .inr (12, 3, 20, 0, 0)) rfl (by decide)
  have k14 := hW.k (k := 14) (κ := z_ai 14 6 (-1) 5) rfl (by decide)
  have k15 := hW.k (k := 15) (κ := z_ai 15 6 0 60) rfl (by decide)
  have k17 := hW.k (k := 17) (κ := .inr (17, 3, 6, 0, 0)) rfl (by decide)
  have k49 := hW.k (k := 49) (κ := z_ai 49 6 (-1) 24) rfl (by decide)
  have k50 := hW.k (k := 50) (κ := z_ai 50 6 0 60) rfl (by decide)
  refine z_twoG (C := fun v v2 => v = v2) ?_
  rw [zzm176]
  show z_ev 2046 176 0 [some (.ref 4), some (.int x1), some (.int x2), some (.int x3)] [] M _
  refine zRC176 (d := 2044) hW fun y M1 X1 _ _ r1 a14 b14 a15 b15 a17 b17 => ?_
  have hB := z_kee hA X1 (by decide)
  refine ⟨⟨y, rfl⟩, Or.inl ⟨X1.1.1.trans hW.1.symm, z_kep X1 (by decide)⟩, ?_⟩
  rw [zzm285]
  show z_ev 2046 285 0 [some (.ref 19), some (.int x1), some (.int x2), some (.int x3), none] [] M1 _
  refine zRC285 (d := 2044) hB.1.1 fun z M2 X2 _ _ r2 a49 b49 a50 b50 => ?_
  have e : y.toInt = z.toInt := by omega
  have hC := z_kee hB X2 (by decide)
  have e45 : z_F M2 4 5 = z_F M 4 5 := (X2.2.1 4 0 0 0 0 0 5 k4 (by decide)).trans (X1.2.1 4 0 0 0 0 0 5 k4 (by decide))
  have e12 : z_O M2 12 = z_O M 12 := (X2.2.o k12 (by decide)).trans (X1.2.o k12 (by decide))
  have c14 : z_Ar M2 14 = z_Ar M1 14 := X2.2.a k14 (by decide)
  have c15 : z_Ar M2 15 = z_Ar M1 15 := X2.2.a k15 (by decide)
  have c17 : z_O M2 17 = z_O M1 17 := X2.2.o k17 (by decide)
  have d49 : z_Ar M1 49 = z_Ar M 49 := X1.2.a k49 (by decide)
  have d50 : z_Ar M1 50 = z_Ar M 50 := X1.2.a k50 (by decide)
  have h2 : z_R2 M2 := by
    by_cases hy : y.toInt = 1
    · have hz : z.toInt = 1 := by omega
      obtain ⟨v14, q14, f14⟩ := a14 hy
      obtain ⟨v49, q49, f49⟩ := a49 hz
      obtain ⟨v50, q50, f50⟩ := a50 hz
      obtain ⟨v15, q15, f15⟩ := a15 hy
      have f17 := a17 hy
      rw [← c14] at f14
      rw [← c17] at f17
      rw [d49] at f49
      rw [d50] at f50
      rw [← c15] at f15
      refine hR.2.2.put (k := x1.toNatClampNeg) e45 e12 (fun d hd => z_updn f14 hd) (fun d hd => z_updn f15 hd) (fun d hd => z_updRn f17 hd) (fun d hd => z_updn f49 hd) (fun d hd => z_updn f50 hd) ?_
      unfold z_shf
      rw [z_upds f14, z_upds f49, z_upds f50, z_updRs f17, e45, e12, z_upds f15]
      exact Or.inr (Or.inr ⟨by omega, by omega, by omega, by omega, rfl⟩)
    · have hz : z.toInt ≠ 1 := by omega
      have f14 := c14.trans (b14 hy)
      have f17 := c17.trans (b17 hy)
      have f49 := (b49 hz).trans d49
      have f50 := (b50 hz).trans d50
      have f15 : z_Ar M2 15 = z_Ar M 15 := c15.trans (b15 hy)
      intro d hd
      unfold z_shf
      rw [f14, f15, f17, f49, f50, e45, e12]
      exact hR.2.2 d hd
  exact ⟨⟨z, rfl⟩, by rw [Int32.toInt_inj.mp e], ⟨T, hC, (hR.1.ke hW X1.2 rfl).ke X1.1 X2.2 rfl, (hR.2.1.ke hW (fun _ _ h => h) X1.2 rfl).ke X1.1 (fun _ _ h => h) X2.2 rfl, h2⟩, X2.1.1.trans X1.1.1.symm, z_kep X2 (by decide)⟩
/-- agenda -/
theorem zJ1 : z_P1 z_J := by
  intro M ⟨T, hA, hR⟩
  refine z_twoG (C := fun _ _ => True) ?_
  rw [zzm5]
  show z_ev 2046 5 0 [some (.ref 4), none, none] [] M _
  refine zT5 hA (fun y T1 M1 hB hp1 ke hp hs => ?_)
  have hR1 := hR.ke hA.1.1 hp1 ke rfl
  refine ⟨⟨y, rfl⟩, ?_, ?_⟩
  · unfold z_szr
    rcases hs with h | ⟨h, h2⟩
    · exact Or.inl ⟨h, hp⟩
    · exact Or.inr ⟨by omega, by omega⟩
  rw [zzm190]
  show z_ev 2046 190 0 [some (.ref 19), none, none, none, none, none] [] M1 _
  refine zQC190 (d := 1073) hB.1.1 hB.2.1 hB.2.2.1 (fun z M2 X2 hgl hg4 => ?_)
  have k4 : T1[4]? = some (.inl (0, 0, 0, 0, 0)) := hB.1.1.k rfl (by decide)
  have k19 : T1[19]? = some (.inl (12, 0, 0, 0, 0)) := hB.1.1.k rfl (by decide)
  refine ⟨⟨z, rfl⟩, trivial, ⟨T1, ⟨hB.1.go X2 (by decide), hgl, hg4, ?_⟩, hR1.go hB.1.1 X2 rfl⟩, X2.1.1.trans hB.1.1.1.symm, z_kep X2 (by decide)⟩
  rw [X2.2.1 4 0 0 0 0 0 5 k4 (by decide), X2.2.1 19 12 0 0 0 0 21 k19 (by decide)]
  exact hB.2.2.2
/-- twisted -/
theorem zJ24 : z_P24 z_J := by
  intro x1 x2 x3 M ⟨T, hA, hR⟩
  refine z_twoG (C := fun _ _ => True) ?_
  have H2 : ∀ (T1 : List zK) (M1 : zH), z_inv T1 M1 → z_RR T1 M1 → z_ev 2046 263 0 (z_ent [.ref 19, .int x1, .int x2, .int x3] (z_ml 263)) [] M1 fun v2 M2 => (∃ y, v2 = some (.int y)) ∧ True ∧ z_J M2 ∧ M2.length = M1.length ∧ z_pot M2 = z_pot M1 := by
    intro T1 M1 hB hS
    rw [zzm263]
    show z_ev 2046 263 0 [some (.ref 19), some (.int x1), some (.int x2), some (.int x3), none, none, none, none, none] [] M1 _
    refine zC263 hB.1.1 hB.2.2.1 fun z M2 X2  => ?_
    exact ⟨⟨z, rfl⟩, trivial, ⟨T1, z_kee hB X2 (by decide), hS.go hB.1.1 X2 rfl⟩, X2.1.1.trans hB.1.1.1.symm, z_kep X2 (by decide)⟩
  rw [zzm119]
  show z_ev 2046 119 0 [some (.ref 4), some (.int x1), some (.int x2), some (.int x3), none, none] [] M _
  refine zC119 hA.1.1 (fun b c A h1 h2 h3 h4 h5 h6 h7 h8 h9 => ?_) hA.1 (fun y M1 X1 => ⟨⟨y, rfl⟩, Or.inl ⟨X1.1.1.trans hA.1.1.1.symm, z_kep X1 (by decide)⟩, H2 T M1 (z_kee hA X1 (by decide)) (hR.go hA.1.1 X1 rfl)⟩)
  refine zT119 hA.1 h1 h2 h3 h4 h5 h6 h7 h8 (fun y M3 hW1 X3 h e2 => ?_)
  have hB := z_new4 hA (z_same.push hA.1.1) hW1
  have hS := hR.ke (rs := []) hA.1.1 z_pfx (z_ke.block hA.1.1) rfl
  refine ⟨⟨y, rfl⟩, Or.inr ?_, H2 _ M3 (z_kee hB X3 (by decide)) (hS.go hW1 X3 rfl)⟩
  have e1 : M3.length = M.length + 1 := by rw [X3.1.1, List.length_append, hA.1.1.1]; rfl
  have e3 : z_pot M = 16400 := by rw [z_poth, h9]
  have e4 : z_pot M3 = 0 := by rw [z_poth, h]
  unfold z_szr
  exact ⟨by omega, by omega⟩
