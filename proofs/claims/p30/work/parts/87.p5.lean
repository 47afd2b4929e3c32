/-! feed and agenda of both sides: tapes and agendas stay alike -/
theorem z_ev.and {d j pc : Nat} {L : zL} {S : zS} {M : zH} {K1 K2 : Option Value → zH → Prop} (h1 : z_ev d j pc L S M K1) (h2 : z_ev d j pc L S M K2) : z_ev d j pc L S M fun v M1 => K1 v M1 ∧ K2 v M1 := by
  obtain ⟨n1, v1, M1, r1, k1⟩ := h1
  obtain ⟨n2, v2, M2, r2, k2⟩ := h2
  have e1 := z_run_up r1 n2
  have e2 := z_run_up r2 n1
  rw [Nat.add_comm n2 n1, e1] at e2
  cases e2
  exact ⟨n1, v1, M1, r1, k1, k2⟩
theorem y_AGO.ot {T : List zK} {M1 M2 : zH} {a q t m pr en : Nat} {B : Nat → Nat} {A : Int} (h : y_AGO M1 a q t m pr en B) (hW : z_W M1 T) (hO : z_OT A M1 M2) (ha : (a : Int) < A) (hA : A ≤ 8) : y_AGO M2 a q t m pr en B := by
  obtain ⟨h24, h25, h27, h28, h31, h29, h30⟩ := h
  have q10 : q ≤ 10 := by
    obtain ⟨f, e1, e2, e3⟩ := hW.ai (hW.k (k := 24) (κ := z_ai 24 8 0 10) rfl (by decide)) (by decide)
    have e4 := (e3 a (by omega)).2
    rw [← e2, h24] at e4
    omega
  have p10 : 2 ^ q ≤ 1024 := Nat.pow_le_pow_right (by decide) q10
  obtain ⟨o1, o2⟩ := hO
  refine ⟨by rw [o1 24 (by decide) a ha]; exact h24, by rw [o1 25 (by decide) a ha]; exact h25, by rw [o1 27 (by decide) a ha]; exact h27, by rw [o1 28 (by decide) a ha]; exact h28, by rw [o1 31 (by decide) a ha]; exact h31, fun s hs => ?_, fun s hs hb => ?_⟩
  · rw [o2 29 (by decide) (1024 * a + s) (by omega)]
    exact h29 s hs
  · have hl := z_lc_le B s
    show (z_Ar M2 30 (1024 * a + z_lc B s)).toInt = (s : Int)
    rw [o2 30 (by decide) (1024 * a + z_lc B s) (by omega)]
    exact h30 s hs hb
theorem z_R6.new {bb : Nat → Int} {nn : Nat} {T T1 : List zK} {M M1 M2 : zH} (h6 : z_R6 T M) (hW : z_W M T) (hW1 : z_W M1 T1) (v2 : (z_Fv M 19 13).toInt = (z_Fv M 4 3).toInt) (hp1 : ∀ (a : Nat) (κ : zK), T[a]? = some κ → T1[a]? = some κ) (ke : z_ke T zwB M M1) (hAG : z_AGC bb nn M M1) (hAN : z_AGN T1 M M1 bb nn) (X2 : z_X T1 zw190 M1 M2) (e13 : z_Fv M1 19 13 = z_Fv M 19 13) (hAGP : y_AGP bb nn M1 M2) (hOT : z_OT (z_Fv M1 19 13).toInt M1 M2) : z_R6 T1 M2 := by
  have k4 : T[4]? = some (.inl (0, 0, 0, 0, 0)) := hW.k rfl (by decide)
  have k10 := hW1.k (k := 10) (κ := .inr (10, 2, 8, 9, 0)) rfl (by decide)
  obtain ⟨A, hA, a0, a8⟩ := hW.fi k4 (k := 3) (lo := 0) (hi := 8) (by decide) rfl
  intro A' hA' a ha
  have hA1 : z_F M1 4 3 = some (.int A') := (X2.2.1 4 0 0 0 0 0 3 (hp1 _ _ k4) (by decide)).symm.trans hA'
  have o10 : z_O M2 10 = z_O M1 10 := X2.2.o k10 (by decide)
  obtain ⟨n1, n2⟩ := hAN A hA
  have eA := z_Fv.of hA
  have eA1 := z_Fv.of hA1
  rw [e13, v2, eA] at hOT
  unfold z_AGC at hAG
  unfold y_AGP at hAGP
  rw [e13, v2, eA] at hAGP
  rw [eA, eA1] at hAG
  rw [eA1] at n2
  by_cases c : (a : Int) < A.toInt
  · obtain ⟨b, N, q, t, m, pr, en, B, h1, h2, h3, h4, h5⟩ := h6 A hA a c
    refine ⟨b, N, q, t, m, pr, en, B, by rw [o10, n1 a c]; exact h1, hp1 _ _ h2, X2.2.f (hp1 _ _ h2) (by decide) (ke.f h2 (by decide) h3), (h4.ke hp1 ke rfl).ke (fun _ _ h => h) X2.2 rfl, ?_⟩
    exact y_AGO.ot (h5.ke hW ke rfl) hW1 hOT c a8
  · rcases hAG with ⟨p1, p2⟩ | ⟨p1, p2, ⟨p3, p4⟩ | ⟨p3, p4⟩⟩
    · rw [p2, hA] at hA1
      cases hA1
      exact absurd ha c
    · exfalso; omega
    · have ea : a = A.toInt.toNat := by omega
      obtain ⟨b, N, q, t, m, pr, en, nu, ts, hwh, ob, kb, fb, hG⟩ := n2 p3
      rcases hAGP with ⟨q1, _⟩ | ⟨_, _, ⟨_, q4⟩ | ⟨_, _, k, nu', pr', en', t', ts', hY⟩⟩
      · exact absurd q1 p1
      · exact absurd p4 q4
      · obtain ⟨⟨_, g24, _, _, _, g27, g28, g25, _, _⟩, g1, _, g29, g31, g30⟩ := hY
        rw [hwh] at g1
        cases g1
        rw [← ea] at ob g24 g25 g27 g28 g29 g30 g31
        have hm := hG.2.2.1
        have hpe := z_wh_lt hwh (by have := hW1.p3 kb; omega)
        refine ⟨b, N, q, t, m, pr, en, z_brk bb nn nu ts t, by rw [o10]; exact ob, kb, X2.2.f kb (by decide) fb, hG.ke (fun _ _ h => h) X2.2 rfl, g24, g25, ⟨g27, hpe.1⟩, ⟨g28, hpe.2⟩, by rw [hm]; exact g31, g29, g30⟩
theorem z_R7.new {T T1 : List zK} {M M1 M2 : zH} {A : Int32} (h : z_R7 T M) (hW : z_W M T) (hW1 : z_W M1 T1) (hA : z_F M 4 3 = some (.int A)) (a0 : 0 ≤ A.toInt) (a8 : A.toInt ≤ 8) (hp1 : ∀ (a : Nat) (κ : zK), T[a]? = some κ → T1[a]? = some κ) (ke : z_ke T zwB M M1) (hN : z_N7 T T1 M M1) (X2 : z_X T1 zw190 M1 M2) (hOT : z_OT A.toInt M1 M2) (hOZ : z_OZ M1 M2) : z_R7 T1 M2 := by
  have k4 : T[4]? = some (.inl (0, 0, 0, 0, 0)) := hW.k rfl (by decide)
  have k10 := hW1.k (k := 10) (κ := .inr (10, 2, 8, 9, 0)) rfl (by decide)
  have k35 := hW.k (k := 35) (κ := z_ai 35 8 0 9) rfl (by decide)
  have hb1 := hN.1 h.1
  have hb2 := hb1.ke X2.2 rfl
  have o10 : z_O M2 10 = z_O M1 10 := X2.2.o k10 (by decide)
  have eA : z_F M2 4 3 = z_F M1 4 3 := X2.2.1 4 0 0 0 0 0 3 (hp1 _ _ k4) (by decide)
  obtain ⟨h1, h2, h0⟩ := h.2 A hA
  have e35 : z_Ar M1 35 = z_Ar M 35 := ke.a k35 (by decide)
  have e32 : z_Ar M2 32 = z_Ar M 32 := (X2.2.a (hW1.k (k := 32) (κ := z_af 32 72) rfl (by decide)) (by decide)).trans (ke.a (hW.k (k := 32) (κ := z_af 32 72) rfl (by decide)) (by decide))
  have e33 : z_Ar M2 33 = z_Ar M 33 := (X2.2.a (hW1.k (k := 33) (κ := z_af 33 72) rfl (by decide)) (by decide)).trans (ke.a (hW.k (k := 33) (κ := z_af 33 72) rfl (by decide)) (by decide))
  have e34 : z_Ar M2 34 = z_Ar M 34 := (X2.2.a (hW1.k (k := 34) (κ := z_af 34 72) rfl (by decide)) (by decide)).trans (ke.a (hW.k (k := 34) (κ := z_af 34 72) rfl (by decide)) (by decide))
  have z35 : ∀ a : Nat, A.toInt ≤ (a : Int) → a < 8 → (z_Ar M2 35 a).toInt = 0 := fun a h3 h4 => by
    rcases hOZ a with e | e
    · rw [e, e35]
      exact h0 a h3 h4
    · rw [e]
      rfl
  have old : ∀ a : Nat, (a : Int) < A.toInt → z_O M1 10 a = z_O M 10 a → ∃ b q t m : Nat, z_O M2 10 a = some b ∧ T1[b]? = some (.inl (3, q, t, m, 9)) ∧ z_BR M2 M2 a b q := fun a ha eo => by
    obtain ⟨b, q, t, m, h5, h6, J, w, y, n, h7, h8, ⟨h9, h11⟩, h10⟩ := h1 a ha
    refine ⟨b, q, t, m, by rw [o10, eo]; exact h5, hp1 _ _ h6, J, w, y, n, h7, (h8.ke h.1 hW h6 ke rfl).ke hb1 hW1 (hp1 _ _ h6) X2.2 rfl, ⟨?_, fun j hj => ?_⟩, h10⟩
    · rw [hOT.1 35 (by decide) a ha, e35]
      exact h9
    · rw [e32, e33, e34]
      exact h11 j hj
  refine ⟨hb2, fun A' hA' => ?_⟩
  have a48 : A'.toInt ≤ 8 := by
    obtain ⟨A4, hA4, _, h8⟩ : ∃ w : Int32, z_F M2 4 3 = some (.int w) ∧ 0 ≤ w.toInt ∧ w.toInt ≤ 8 := X2.1.fi (hp1 _ _ k4) (by decide) rfl
    rw [hA'] at hA4
    cases hA4
    exact h8
  rw [eA] at hA'
  rcases hN.2.1 with ⟨g1, g2⟩ | ⟨A3, b, q, t, m, g1, g2, g3, g4, g5, g6⟩
  · rw [g2, hA] at hA'
    cases hA'
    exact ⟨fun a ha => old a ha (by rw [g1]), fun a a2 h3 h4 e => h2 a a2 h3 h4 (by rw [o10, g1] at e; exact e), z35⟩
  · rw [hA] at g1
    cases g1
    rw [z_Fv.of hA'] at g6
    have eN : A.toNatClampNeg = A.toInt.toNat := rfl
    have hu : ∀ a : Nat, z_O M1 10 a = if a = A.toInt.toNat then some b else z_O M 10 a := fun a => by
      rw [g2]
      rfl
    have hlt : ∀ (a : Nat) (b2 : Nat), (a : Int) < A.toInt → z_O M 10 a = some b2 → b2 < T.length := fun a b2 ha hb => by
      obtain ⟨b3, q3, t3, m3, f1, f2, _⟩ := h1 a ha
      rw [hb] at f1
      cases f1
      exact (List.getElem?_eq_some_iff.mp f2).1
    refine ⟨fun a ha => ?_, fun a a2 h3 h4 e => ?_, fun a h3 h4 => z35 a (by omega) h4⟩
    · by_cases c : (a : Int) < A.toInt
      · exact old a c (by rw [hu a, if_neg (by omega)])
      · have ea : a = A.toInt.toNat := by omega
        refine ⟨b, q, t, m, by rw [o10, hu a, if_pos ea], g3, 0, fun _ => 0, fun _ => 0, fun _ => 0, by omega, ⟨⟨0, X2.2.f g3 (by decide) g5, rfl⟩, fun j hj => absurd hj (Nat.not_lt_zero j)⟩, ⟨z35 a (by omega) (by omega), fun j hj => absurd hj (Nat.not_lt_zero j)⟩, fun j hj => absurd hj (Nat.not_lt_zero j)⟩
    · rw [o10, hu a, hu a2] at e
      by_cases c : a = A.toInt.toNat
      · by_cases c2 : a2 = A.toInt.toNat
        · omega
        · rw [if_pos c, if_neg c2] at e
          have := hlt a2 b (by omega) e.symm
          omega
      · by_cases c2 : a2 = A.toInt.toNat
        · rw [if_neg c, if_pos c2] at e
          have := hlt a b (by omega) e
          omega
        · rw [if_neg c, if_neg c2] at e
          exact h2 a a2 (by omega) (by omega) e
def z_Q0 (I : zH → Prop) : Prop := ∀ (x1 : Int32) (x2 : Int32) (M : zH), I M → z_ev 2046 3 0 (z_ent [.ref 4, .int x1, .int x2] (z_ml 3)) [] M fun v M1 => (∃ y, v = some (.int y)) ∧ z_ev 2046 188 0 (z_ent [.ref 19, .int x1, .int x2] (z_ml 188)) [] M1 fun v2 M2 => (∃ y, v2 = some (.int y)) ∧ v = v2 ∧ I M2 ∧ M2.length ≤ M.length + 1171 ∧ z_szr M2 ≤ z_szr M + 14000
theorem zS0 : z_Q0 z_J := by
  intro x1 x2 M ⟨T, hA, hR, h9⟩
  have hW := hA.1.1
  refine z_twoG (C := fun v v2 => v = v2) ?_
  rw [zzm3]
  show z_ev 2046 3 0 [some (.ref 4), some (.int x1), some (.int x2)] [] M _
  refine zTC3 (d := 2045) hW fun y M1 X1 _ _ h1 => ?_
  have hB := z_kee hA X1 (by decide)
  refine ⟨⟨y, rfl⟩, Or.inl ⟨X1.1.1.trans hW.1.symm, z_kep X1 (by decide)⟩, ?_⟩
  rw [zzm188]
  show z_ev 2046 188 0 [some (.ref 19), some (.int x1), some (.int x2), none] [] M1 _
  refine zYC188 (d := 2045) hB.1.1 fun z M2 X2 _ _ h2 => ?_
  obtain ⟨e, r5⟩ := z_R5f hR.1 hW X1 h1 X2 h2
  exact ⟨⟨z, rfl⟩, by rw [Int32.toInt_inj.mp e], ⟨T, z_kee hB X2 (by decide), ⟨r5, (hR.2.1.ke hW (fun _ _ h => h) X1.2 rfl rfl rfl).ke X1.1 (fun _ _ h => h) X2.2 rfl rfl rfl, (hR.2.2.ke hW (fun _ _ h => h) (hR.2.2.1.ke X1.2 rfl) X1.2 rfl).ke X1.1 (fun _ _ h => h) ((hR.2.2.1.ke X1.2 rfl).ke X2.2 rfl) X2.2 rfl⟩, (h9.go hR.2.2.1 hW X1 rfl).go (hR.2.2.1.ke X1.2 rfl) X1.1 X2 rfl⟩, X2.1.1.trans X1.1.1.symm, z_kep X2 (by decide)⟩
theorem zJ1 : z_P1 z_J := by
  intro M ⟨T, hA, hR, h9⟩
  have hW := hA.1.1
  obtain ⟨v1, v2, v3, v4⟩ := z_R5.v hR.1
  have k2 := hW.k (k := 2) (κ := z_al 2 6) rfl (by decide)
  have k5 : T[5]? = some (.inl (1, 0, 0, 0, 0)) := hW.k rfl (by decide)
  have k19 : T[19]? = some (.inl (12, 0, 0, 0, 0)) := hW.k rfl (by decide)
  have k20 := hW.k (k := 20) (κ := z_af 20 160) rfl (by decide)
  obtain ⟨l, hl, l0, l160⟩ := hW.fi k5 (k := 1) (lo := 0) (hi := 160) (by decide) rfl
  have el : z_Fv M 5 1 = l := z_Fv.of hl
  rw [el] at v1 v3
  have hTB : z_TB M (fun k => (z_Ar M 6 k).toInt) l.toInt.toNat := ⟨fun _ => rfl, by rw [el]; omega, ⟨by omega, fun k hk => (v3 k (by omega)).2⟩, v4⟩
  refine z_twoG (C := fun _ _ => True) ?_
  rw [zzm5]
  show z_ev 2046 5 0 [some (.ref 4), none, none] [] M _
  refine zH5 hA hTB (fun y T1 M1 hB hp1 ke hp hs hAG hAN hN7 => ?_)
  refine ⟨⟨y, rfl⟩, ?_, ?_⟩
  · unfold z_szr
    rcases hs with h | ⟨h, h2⟩
    · exact Or.inl ⟨h, hp⟩
    · exact Or.inr ⟨by omega, by omega⟩
  rw [zzm190]
  show z_ev 2046 190 0 [some (.ref 19), none, none, none, none, none] [] M1 _
  have e1 : z_Fv M1 19 1 = z_Fv M 19 1 := z_FvK (ke.1 19 12 0 0 0 0 1 k19 (by decide))
  have e13 : z_Fv M1 19 13 = z_Fv M 19 13 := z_FvK (ke.1 19 12 0 0 0 0 13 k19 (by decide))
  have hT0 : y_T0 M1 (fun k => (z_Ar M 6 k).toInt) l.toInt.toNat := ⟨by rw [e1, v1]; omega, by omega, fun j hj => by rw [ke.a k20 (by decide)]; exact (v3 j (by omega)).1⟩
  refine z_ev.mono (z_ev.and (zYC190 (d := 1073) (K := fun v M2 => ∃ z : Int32, v = some (.int z) ∧ z_X T1 zw190 M1 M2 ∧ z_GL M2 ∧ z_G4 M2 ∧ y_AGP (fun k => (z_Ar M 6 k).toInt) l.toInt.toNat M1 M2) hB.1.1 hB.2.1 hB.2.2.1 hT0 (fun z M2 a b c e => ⟨z, rfl, a, b, c, e⟩)) (zOC190 (d := 1073) (K := fun _ M2 => z_OT (z_Fv M1 19 13).toInt M1 M2 ∧ z_OZ M1 M2) hB.1.1 hB.2.1 hB.2.2.1 (fun _ M2 _ _ e _ e2 => ⟨e, e2⟩))) (fun v M2 ⟨⟨z, hv, X2, hgl, hg4, hAGP⟩, hOT, hOZ⟩ => ?_)
  subst hv
  have j2 : T1[2]? = some (z_al 2 6) := hB.1.1.k rfl (by decide)
  have j4 : T1[4]? = some (.inl (0, 0, 0, 0, 0)) := hB.1.1.k rfl (by decide)
  have j5 : T1[5]? = some (.inl (1, 0, 0, 0, 0)) := hB.1.1.k rfl (by decide)
  have j19 : T1[19]? = some (.inl (12, 0, 0, 0, 0)) := hB.1.1.k rfl (by decide)
  have f5 : z_Fv M2 5 1 = z_Fv M1 5 1 := z_FvK (X2.2.1 5 1 0 0 0 0 1 j5 (by decide))
  have f3 : z_Fv M2 4 3 = z_Fv M1 4 3 := z_FvK (X2.2.1 4 0 0 0 0 0 3 j4 (by decide))
  have l2 : z_Lg M2 2 = z_Lg M 2 := (X2.2.lg j2 (by decide)).trans (ke.lg k2 (by decide))
  have r6 := z_R6.new hR.2.1 hW hB.1.1 v2 hp1 ke hAG hAN X2 e13 hAGP hOT
  have r7 : z_R7 T1 M2 := by
    obtain ⟨A, hA, a0, a8⟩ := hW.fi (hW.k (k := 4) (κ := .inl (0, 0, 0, 0, 0)) rfl (by decide)) (k := 3) (lo := 0) (hi := 8) (by decide) rfl
    have hO2 := hOT
    rw [e13, v2, z_Fv.of hA] at hO2
    exact hR.2.2.new hW hB.1.1 hA a0 a8 hp1 ke hN7 X2 hO2 hOZ
  have r9 : z_R89 T1 M2 := h9.new hR.2.2.1 hW (hN7.1 hR.2.2.1) hB.1.1 (fun b q t m hb => by have := hB.1.1.p3 hb; omega) ke rfl (hN7.2.2 hR.2.2.1) X2 rfl
  have r5 : z_R5 M2 := by
    unfold y_AGP at hAGP
    unfold z_AGC at hAG
    rw [e13, v2] at hAGP
    rcases hAG with ⟨p1, p2⟩ | ⟨p1, p2, p3⟩
    · rcases hAGP with ⟨q1, q2⟩ | ⟨q1, _, _⟩
      · rw [q2, p2]
        exact hR.1
      · exact absurd p1 q1
    · rcases hAGP with ⟨q1, _⟩ | ⟨_, q2, q3⟩
      · exact absurd q1 p1
      · refine z_R5.mk X2.1 (by rw [f5, p2, q2]) ?_ (fun j hj => by rw [f5, p2] at hj; exact absurd hj (Int.not_lt.mpr (Int.natCast_nonneg j))) (fun q hq => by rw [l2]; exact v4 q hq)
        rw [f3]
        rcases p3 with ⟨p3, p4⟩ | ⟨p3, p4⟩
        · rcases q3 with ⟨q3, q4⟩ | ⟨q3, q4, -⟩
          · omega
          · exact absurd q4 p4
        · rcases q3 with ⟨q3, q4⟩ | ⟨q3, q4, -⟩
          · exact absurd p4 q4
          · omega
  refine ⟨⟨z, rfl⟩, trivial, ⟨T1, ⟨hB.1.go X2 (by decide), hgl, hg4, ?_⟩, ⟨r5, r6, r7⟩, r9⟩, X2.1.1.trans hB.1.1.1.symm, z_kep X2 (by decide)⟩
  rw [X2.2.1 4 0 0 0 0 0 5 j4 (by decide), X2.2.1 19 12 0 0 0 0 21 j19 (by decide)]
  exact hB.2.2.2
