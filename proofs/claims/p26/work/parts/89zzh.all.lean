/-! twisted, both sides -/
theorem z_e5 {T : List zK} {M M1 : zH} {rs : List Nat} (hW : z_W M T) (ke : z_ke T rs M M1) (hr : (([2213, 2221, 36, 37, 38] : List Nat).all fun x => !rs.elem x) = true) : z_Fv M1 19 13 = z_Fv M 19 13 ∧ z_Fv M1 19 21 = z_Fv M 19 21 ∧ z_Ar M1 36 = z_Ar M 36 ∧ z_Ar M1 37 = z_Ar M 37 ∧ z_Ar M1 38 = z_Ar M 38 := by
  have n0 := z_nin hr
  have k19 : T[19]? = some (.inl (12, 0, 0, 0, 0)) := hW.k rfl (by decide)
  exact ⟨z_FvK (ke.1 19 12 0 0 0 0 13 k19 (n0 _ rfl)), z_FvK (ke.1 19 12 0 0 0 0 21 k19 (n0 _ rfl)), ke.a (hW.k (k := 36) (κ := z_ai 36 20 0 7) rfl (by decide)) (n0 _ rfl), ke.a (hW.k (k := 37) (κ := z_ai 37 20 0 9) rfl (by decide)) (n0 _ rfl), ke.a (hW.k (k := 38) (κ := z_ai 38 20 0 8) rfl (by decide)) (n0 _ rfl)⟩
theorem zT24 {x1 x2 x3 : Int32} {M : zH} (hch : z_chO M) (hJA : z_JA M) (hJ : z_J M) : z_ev 2046 119 0 (z_ent [.ref 4, .int x1, .int x2, .int x3] (z_ml 119)) [] M fun v M1 => (∃ y, v = some (.int y)) ∧ z_ev 2046 263 0 (z_ent [.ref 19, .int x1, .int x2, .int x3] (z_ml 263)) [] M1 fun v2 M2 => (∃ y, v2 = some (.int y)) ∧ v = v2 ∧ z_J M2 ∧ M2.length ≤ M.length + 1171 ∧ z_szr M2 ≤ z_szr M + 14000 := by
  obtain ⟨TA, hAA, hRA⟩ := hJA
  obtain ⟨T, hA, hR, hL9⟩ := hJ
  have hW := hA.1.1
  have hbk := hR.2.2.1
  obtain ⟨v1, v2, v3, v4⟩ := z_R5.v hR.1
  have k4 : T[4]? = some (.inl (0, 0, 0, 0, 0)) := hW.k rfl (by decide)
  have k19 : T[19]? = some (.inl (12, 0, 0, 0, 0)) := hW.k rfl (by decide)
  obtain ⟨V, hV, _, V20⟩ := hW.fi k4 (k := 5) (lo := 0) (hi := 20) (by decide) rfl
  obtain ⟨G, hGe, _, G8⟩ := hW.fi k4 (k := 3) (lo := 0) (hi := 8) (by decide) rfl
  obtain ⟨w, cw, b, b2, N, sa, q, t, m, pr, en, B, S, A, sh, ch, hD⟩ : ∃ (w cw b b2 N sa q t m pr en : Nat) (B : Nat → Nat) (S : Nat → Int32) (A sh ch : Int32), z_vW M x1 x2 → (z_wyK T M x1 w cw sh ch ∧ (z_Ar M 36 x1.toNatClampNeg).toInt + 4 = (cw : Int) ∧ sh = z_Ar M 37 x1.toNatClampNeg ∧ ch = z_Ar M 38 x1.toNatClampNeg) ∧ z_ag T M x2 b b2 N sa q t m pr en B S A := by
    by_cases c : z_vW M x1 x2
    · have c2 := c
      unfold z_vW at c2
      rw [z_Fv.of hV, z_Fv.of hGe] at c2
      obtain ⟨w, cw, sh, ch, gw0⟩ := z_wyX hAA.1.1 hW hRA.1 hV c2.1 hA.1 V20
      obtain ⟨b, b2, N, sa, q, t, m, pr, en, B, S, A, g⟩ := z_agX hW hR hL9 hA.1 hGe c2.2 G8
      exact ⟨w, cw, b, b2, N, sa, q, t, m, pr, en, B, S, A, sh, ch, fun _ => ⟨gw0, g⟩⟩
    · exact ⟨0, 0, 0, 0, 0, 0, 0, 0, 0, 0, 0, fun _ => 0, fun _ => 0, 0, 0, 0, fun h => absurd h c⟩
  refine z_twoG (C := fun v v2 => v = v2) ?_
  rw [zzm119]
  show z_ev 2046 119 0 [some (.ref 4), some (.int x1), some (.int x2), some (.int x3), none, none] [] M _
  have hK1 : z_ev 2046 119 0 [some (.ref 4), some (.int x1), some (.int x2), some (.int x3), none, none] [] M fun v M1 => ∃ y : Int32, v = some (.int y) ∧ z_aA (z_vW M x1 x2) (1 ≤ x3.toInt ∧ x3.toInt ≤ 5) m (z_kA (z_pTw cw B q pr en sh.toInt.toNat ch.toInt.toNat m x3.toInt.toNat S A) (fun _ => 0) (z_T m x3.toInt.toNat) 0 y.toInt) y.toInt := by
    refine zUC119 (d := 2039) hW hA.1 hch (fun h => ⟨(hD h).1.1, (hD h).2⟩) (fun hv h3 m12 _ => ?_) (fun y M1 X h => ⟨y, rfl, h⟩)
    exact zUT119 hW hch hv (hD hv).1.1 (hD hv).2 h3 m12 (fun y M3 h => ⟨y, rfl, h⟩)
  have hK2 : z_ev 2046 119 0 [some (.ref 4), some (.int x1), some (.int x2), some (.int x3), none, none] [] M fun v M1 => ((M1.length = M.length ∧ z_pot M1 = z_pot M) ∨ (M1.length ≤ M.length + 1171 ∧ z_szr M1 ≤ z_szr M + 14000)) ∧ ∃ T1, z_inv T1 M1 ∧ z_RR T1 M1 ∧ z_R89 T1 M1 ∧ (z_Fv M1 19 13 = z_Fv M 19 13 ∧ z_Fv M1 19 21 = z_Fv M 19 21 ∧ z_Ar M1 36 = z_Ar M 36 ∧ z_Ar M1 37 = z_Ar M 37 ∧ z_Ar M1 38 = z_Ar M 38) ∧ (z_vW M x1 x2 → y_tnb M1 x2.toNatClampNeg q t m pr en B S A) := by
    refine zOC119 (d := 2039) hW hbk (fun b c A h1 h2 h3 h4 h5 h6 h7 h8 h9 => ?_) hA.1 (fun y M1 X1 ho => ⟨Or.inl ⟨X1.1.1.trans hW.1.symm, z_kep X1 (by decide)⟩, T, z_kee hA X1 (by decide), hR.tri hW X1 ho rfl rfl rfl, hL9.tri hbk hW X1.2 ho (fun b q t m hb ⟨q2, t2, m2, h5⟩ => by rw [hb] at h5; cases h5), z_e5 hW X1.2 rfl, fun h => (hD h).2.y hW X1.2 rfl⟩)
    refine zOT119 hA.1 hbk h1 h2 h3 h4 h5 h6 h7 h8 (fun y M3 hW1 X3 h e2 ho => ?_)
    have hB := z_new4 hA (z_same.push hW) hW1
    have hS := hR.push1 hW hW1 (fun _ _ _ _ h => by cases h)
    have ke0 : z_ke T [] M (M ++ [.inl (0, 16380, .inl fun _ => 0)]) := z_ke.block hW
    have hb1 : z_blk (T ++ [(.inr (300, 0, 16380, (-2147483648), 2147483647) : zK)]) (M ++ [.inl (0, 16380, .inl fun _ => 0)]) := hbk.push hW (fun _ _ _ _ h => by cases h)
    have e0 := z_e5 hW ke0 rfl
    have e3 := z_e5 hW1 X3.2 rfl
    refine ⟨Or.inr ?_, _, z_kee hB X3 (by decide), hS.tri hW1 X3 ho rfl rfl rfl, (hL9.push1 hbk hW (fun _ _ _ _ h => by cases h)).tri hS.2.2.1 hW1 X3.2 ho (fun b q t m hb ⟨q2, t2, m2, h5⟩ => by rw [hb] at h5; cases h5), ⟨e3.1.trans e0.1, e3.2.1.trans e0.2.1, e3.2.2.1.trans e0.2.2.1, e3.2.2.2.1.trans e0.2.2.2.1, e3.2.2.2.2.trans e0.2.2.2.2⟩, fun hv => ((hD hv).2.ke hW z_pfx hb1 ke0 rfl).y hW1 X3.2 rfl⟩
    have e1 : M3.length = M.length + 1 := by rw [X3.1.1, List.length_append, hW.1]; rfl
    have e4 : z_pot M = 16400 := by rw [z_poth, h9]
    have e5 : z_pot M3 = 0 := by rw [z_poth, h]
    unfold z_szr
    exact ⟨by omega, by omega⟩
  refine z_ev.mono (z_ev.and hK1 hK2) (fun v M1 ⟨⟨y, hv, h1⟩, hsz, T1, hB, hS, hL, ⟨g13, g21, e36, e37, e38⟩, hTB⟩ => ?_)
  subst hv
  refine ⟨⟨y, rfl⟩, hsz, ?_⟩
  have hN : (z_Fv M1 19 13).toInt = (z_Fv M 4 3).toInt := (congrArg Int32.toInt g13).trans v2
  have hN5 : (z_Fv M1 19 21).toInt = (z_Fv M 4 5).toInt := by
    have e2 : z_Fv M 19 21 = z_Fv M 4 5 := by
      unfold z_Fv
      rw [hA.2.2.2]
    rw [g21, e2]
  have ev : z_vW M x1 x2 ↔ y_vW M1 x1 x2 := by
    unfold z_vW y_vW
    rw [hN, hN5]
  rw [zzm263]
  show z_ev 2046 263 0 [some (.ref 19), some (.int x1), some (.int x2), some (.int x3), none, none, none, none, none] [] M1 _
  refine zYC263 (d := 2040) hB.1.1 hB.2.2.1 (fun h => hTB (ev.mpr h)) fun z M2 X2 h2 => ?_
  have hyz : y = z := by
    refine Int32.toInt_inj.mp (z_aAU h1 h2 ev fun hv p1 p2 => ?_)
    obtain ⟨⟨_, g360, g370, g380⟩, hg⟩ := hD hv
    obtain ⟨kd0, sh0_, ch0_, ⟨q360, q370, q380⟩, p2⟩ := p2
    rw [e36] at q360
    rw [e37, ← g370] at q370
    rw [e38, ← g380] at q380
    rw [show kd0 + 4 = cw by omega, show sh0_ = sh.toInt.toNat by omega, show ch0_ = ch.toInt.toNat by omega] at p2
    exact z_kAU p1 p2 fun _ _ => Iff.rfl
  exact ⟨⟨z, rfl⟩, by rw [hyz], ⟨T1, z_kee hB X2 (by decide), hS.go hB.1.1 X2 rfl, hL.go hS.2.2.1 hB.1.1 X2 rfl⟩, X2.1.1.trans hB.1.1.1.symm, z_kep X2 (by decide)⟩
