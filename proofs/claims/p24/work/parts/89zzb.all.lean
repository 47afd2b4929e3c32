/-! over all benches, both sides -/
theorem z_aAU {v v2 r : Prop} {m : Nat} {P P2 : Prop} {x x2 : Int} (h : z_aA v r m P x) (h2 : z_aA v2 r m P2 x2) (ev : v ↔ v2) (e : v → P → P2 → x = x2) : x = x2 := by
  rcases h with ⟨h1, n1⟩ | ⟨⟨h1, r1⟩, h3⟩
  · rcases h2 with ⟨g1, _⟩ | ⟨⟨g1, g2⟩, _⟩
    · exact h1.trans g1.symm
    · exact absurd ⟨ev.mpr g1, g2⟩ n1
  · rcases h2 with ⟨_, g2⟩ | ⟨_, g3⟩
    · exact absurd ⟨ev.mp h1, r1⟩ g2
    · rcases h3 with ⟨h3, h4⟩ | ⟨h3, h4⟩
      · rcases g3 with ⟨g3, g4⟩ | ⟨g3, g4⟩
        · exact h3.trans g3.symm
        · omega
      · rcases g3 with ⟨g3, g4⟩ | ⟨g3, g4⟩
        · omega
        · exact e h1 h4 g4
/-- the reference's agenda, as the class's -/
theorem z_ag.y {T : List zK} {M M1 : zH} {p : Int32} {b b2 N sa q t m pr en : Nat} {B : Nat → Nat} {S : Nat → Int32} {A : Int32} {rs : List Nat} (h : z_ag T M p b b2 N sa q t m pr en B S A) (hW : z_W M T) (ke : z_ke T rs M M1) (hr : (z_agr.all fun x => !rs.elem x) = true) : y_tnb M1 p.toNatClampNeg q t m pr en B S A := by
  obtain ⟨hAB, _, ⟨hsa, ksa, hSS⟩, hA, hm, _⟩ := h
  have g := hW.p3 hAB.2.1
  have hY := hAB.2.2.2.2.ke hW ke hr
  refine ⟨⟨by omega, by omega⟩, hY, ⟨hm.2, hm.1⟩, fun k hk => ?_, hA⟩
  obtain ⟨_, _, _, _, _, _, ⟨sa2, f5, _, hLS⟩, _⟩ := hAB.2.2.2.1
  obtain rfl : sa = sa2 := z_rfe hsa f5
  obtain ⟨s, s1, s2, s3⟩ := z_lc_ex (B := B) (2 ^ q) k (by omega)
  have e1 : (z_Ar M1 30 (1024 * p.toNatClampNeg + z_lc B s)).toInt = (s : Int) := hY.2.2.2.2.2.2 s s1 s2
  have e2 := hLS s s1 s2
  rw [s3] at e1 e2
  rw [← hSS k hk]
  exact Int32.toInt_inj.mp (e1.trans e2.symm)
theorem zT22 {x1 x2 x3 x4 : Int32} {M : zH} (hch : z_chO M) (hJA : z_JA M) (hJ : z_J M) : z_ev 2046 114 0 (z_ent [.ref 4, .int x1, .int x2, .int x3, .int x4] (z_ml 114)) [] M fun v M1 => (∃ y, v = some (.int y)) ∧ z_ev 2046 259 0 (z_ent [.ref 19, .int x1, .int x2, .int x3, .int x4] (z_ml 259)) [] M1 fun v2 M2 => (∃ y, v2 = some (.int y)) ∧ v = v2 ∧ z_J M2 ∧ M2.length ≤ M.length + 1171 ∧ z_szr M2 ≤ z_szr M + 14000 := by
  obtain ⟨TA, hAA, hRA⟩ := hJA
  obtain ⟨T, hA, hR, h9⟩ := hJ
  have hW := hA.1.1
  have hbk := hR.2.2.1
  obtain ⟨v1, v2, v3, v4⟩ := z_R5.v hR.1
  have k4 : T[4]? = some (.inl (0, 0, 0, 0, 0)) := hW.k rfl (by decide)
  have k19 : T[19]? = some (.inl (12, 0, 0, 0, 0)) := hW.k rfl (by decide)
  obtain ⟨V, hV, _, V20⟩ := hW.fi k4 (k := 5) (lo := 0) (hi := 20) (by decide) rfl
  obtain ⟨G, hGe, _, G8⟩ := hW.fi k4 (k := 3) (lo := 0) (hi := 8) (by decide) rfl
  obtain ⟨w, cw, b, b2, N, sa, q, t, m, pr, en, B, S, A, sh, ch, hD⟩ : ∃ (w cw b b2 N sa q t m pr en : Nat) (B : Nat → Nat) (S : Nat → Int32) (A sh ch : Int32), z_vW M x1 x2 → (z_wyK T M x1 w cw sh ch ∧ (z_Ar M 36 x1.toNatClampNeg).toInt + 4 = (cw : Int) ∧ sh = z_Ar M 37 x1.toNatClampNeg ∧ ch = z_Ar M 38 x1.toNatClampNeg) ∧ z_ag T M x2 b b2 N sa q t m pr en B S A := by
    by_cases c : z_vW M x1 x2
    · have c2 := c
      unfold z_vW at c2
      rw [z_Fv.of hV, z_Fv.of hGe] at c2
      obtain ⟨w, cw, sh, ch, gw0⟩ := z_wyX hAA.1.1 hW hRA.1 hV c2.1 hA.1 V20
      obtain ⟨b, b2, N, sa, q, t, m, pr, en, B, S, A, g⟩ := z_agX hW hR h9 hA.1 hGe c2.2 G8
      exact ⟨w, cw, b, b2, N, sa, q, t, m, pr, en, B, S, A, sh, ch, fun _ => ⟨gw0, g⟩⟩
    · exact ⟨0, 0, 0, 0, 0, 0, 0, 0, 0, 0, 0, fun _ => 0, fun _ => 0, 0, 0, 0, fun h => absurd h c⟩
  refine z_twoG (C := fun v v2 => v = v2) ?_
  rw [zzm114]
  show z_ev 2046 114 0 [some (.ref 4), some (.int x1), some (.int x2), some (.int x3), some (.int x4), none, none, none] [] M _
  refine z_ev.mono (z_ev.and (zUC114 (d := 2041) (K := fun v M1 => ∃ y : Int32, v = some (.int y) ∧ z_X T zw114 M M1 ∧ z_aA (z_vW M x1 x2) ((1 ≤ x3.toInt ∧ x3.toInt ≤ 5) ∧ 0 ≤ x4.toInt ∧ x4.toInt < (q : Int)) m (z_kA (z_pYe cw B q pr en sh.toInt.toNat ch.toInt.toNat m x3.toInt.toNat S A x4.toInt.toNat) (fun _ => 0) (z_T m x3.toInt.toNat) 0 y.toInt) y.toInt) hW hA.1 hch (fun h => ⟨(hD h).1.1, (hD h).2⟩) (fun y M1 X h => ⟨y, rfl, X, h⟩)) (zOC114 (d := 2041) (K := fun _ M1 => z_oth T (z_Qt T) M M1) hW hW hbk hA.1 (fun _ M1 _ ho => ho))) (fun v M1 ⟨⟨y, hv, X1, h1⟩, ho⟩ => ?_)
  subst hv
  have hB := z_kee hA X1 (by decide)
  have hS : z_RR T M1 := hR.tri hW X1 ho rfl rfl rfl
  refine ⟨⟨y, rfl⟩, Or.inl ⟨X1.1.1.trans hW.1.symm, z_kep X1 (by decide)⟩, ?_⟩
  have hN : (z_Fv M1 19 13).toInt = (z_Fv M 4 3).toInt := (congrArg Int32.toInt (z_FvK (X1.2.1 19 12 0 0 0 0 13 k19 (by decide)))).trans v2
  have hN5 : (z_Fv M1 19 21).toInt = (z_Fv M 4 5).toInt := by
    have e1 := z_FvK (X1.2.1 19 12 0 0 0 0 21 k19 (by decide))
    have e2 : z_Fv M 19 21 = z_Fv M 4 5 := by
      unfold z_Fv
      rw [hA.2.2.2]
    rw [e1, e2]
  have ev : z_vW M x1 x2 ↔ y_vW M1 x1 x2 := by
    unfold z_vW y_vW
    rw [hN, hN5]
  have e36 := X1.2.a (hW.k (k := 36) (κ := z_ai 36 20 0 7) rfl (by decide)) (by decide)
  have e37 := X1.2.a (hW.k (k := 37) (κ := z_ai 37 20 0 9) rfl (by decide)) (by decide)
  have e38 := X1.2.a (hW.k (k := 38) (κ := z_ai 38 20 0 8) rfl (by decide)) (by decide)
  rw [zzm259]
  show z_ev 2046 259 0 [some (.ref 19), some (.int x1), some (.int x2), some (.int x3), some (.int x4), none, none, none] [] M1 _
  refine zYC259 (d := 2041) hB.1.1 hB.2.2.1 (fun h => (hD (ev.mpr h)).2.y hW X1.2 rfl) fun z M2 X2 h2 => ?_
  have hyz : y = z := by
    refine Int32.toInt_inj.mp (z_aAU h1 h2 ev fun hv p1 p2 => ?_)
    obtain ⟨⟨_, g360, g370, g380⟩, hg⟩ := hD hv
    obtain ⟨kd0, sh0_, ch0_, ⟨q360, q370, q380⟩, p2⟩ := p2
    rw [e36] at q360
    rw [e37, ← g370] at q370
    rw [e38, ← g380] at q380
    rw [show kd0 + 4 = cw by omega, show sh0_ = sh.toInt.toNat by omega, show ch0_ = ch.toInt.toNat by omega] at p2
    exact z_kAU p1 p2 fun _ _ => Iff.rfl
  exact ⟨⟨z, rfl⟩, by rw [hyz], ⟨T, z_kee hB X2 (by decide), hS.go hB.1.1 X2 rfl, (h9.tri hbk hW X1.2 ho (fun b q t m hb ⟨q2, t2, m2, h5⟩ => by rw [hb] at h5; cases h5)).go hS.2.2.1 hB.1.1 X2 rfl⟩, X2.1.1.trans X1.1.1.symm, z_kep X2 (by decide)⟩
