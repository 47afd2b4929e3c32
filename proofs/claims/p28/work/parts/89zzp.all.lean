/-! laws, both sides -/
theorem zT26 {x1 x2 x3 : Int32} {M : zH} (hch : z_chO M) (hJA : z_JA M) (hJ : z_J M) : z_ev 2046 144 0 (z_ent [.ref 4, .int x1, .int x2, .int x3] (z_ml 144)) [] M fun v M1 => (∃ y, v = some (.int y)) ∧ z_ev 2046 271 0 (z_ent [.ref 19, .int x1, .int x2, .int x3] (z_ml 271)) [] M1 fun v2 M2 => (∃ y, v2 = some (.int y)) ∧ v = v2 ∧ z_J M2 ∧ M2.length ≤ M.length + 1171 ∧ z_szr M2 ≤ z_szr M + 14000 := by
  obtain ⟨TA, hAA, hRA⟩ := hJA
  obtain ⟨T, hA, hR, h9⟩ := hJ
  have hW := hA.1.1
  have hbk := hR.2.2.1
  obtain ⟨v1, v2, v3, v4⟩ := z_R5.v hR.1
  have k4 : T[4]? = some (.inl (0, 0, 0, 0, 0)) := hW.k rfl (by decide)
  have k19 : T[19]? = some (.inl (12, 0, 0, 0, 0)) := hW.k rfl (by decide)
  obtain ⟨V, hV, V0, V20⟩ := hW.fi k4 (k := 5) (lo := 0) (hi := 20) (by decide) rfl
  obtain ⟨G, hGe, _, G8⟩ := hW.fi k4 (k := 3) (lo := 0) (hi := 8) (by decide) rfl
  have hwy : ∀ i : Nat, (i : Int) < V.toInt → ∃ w : Nat, (4 ≤ (z_Ar M 36 i).toInt.toNat + 4 ∧ (z_Ar M 36 i).toInt.toNat + 4 ≤ 11) ∧ z_O M 12 i = some w ∧ T[w]? = some (.inl ((z_Ar M 36 i).toInt.toNat + 4, 0, 0, 0, 0)) ∧ z_F M w 1 = some (.int (z_Ar M 37 i)) ∧ z_F M w 2 = some (.int (z_Ar M 38 i)) := fun i hi => by
    have ep : (Int32.ofNat i).toInt = (i : Int) := Int32.toInt_ofNat_of_lt (by omega)
    have ei : (Int32.ofNat i).toNatClampNeg = i := by
      show (Int32.ofNat i).toInt.toNat = i
      omega
    obtain ⟨w, c, sh, ch, ⟨hc, ow, kw, f1, f2⟩, g36, g37, g38⟩ := z_wyX (p := Int32.ofNat i) hAA.1.1 hW hRA.1 hV ⟨by omega, by omega⟩ hA.1 V20
    rw [ei] at ow g36 g37 g38
    have ec : (z_Ar M 36 i).toInt.toNat + 4 = c := by omega
    rw [ec, ← g37, ← g38]
    exact ⟨w, hc, ow, kw, f1, f2⟩
  obtain ⟨b, b2, N, sa, q, t, m, pr, en, B, S, A, hD⟩ : ∃ (b b2 N sa q t m pr en : Nat) (B : Nat → Nat) (S : Nat → Int32) (A : Int32), z_vK M x1 → z_ag T M x1 b b2 N sa q t m pr en B S A := by
    by_cases c : z_vK M x1
    · have c2 := c
      unfold z_vK at c2
      rw [z_Fv.of hGe] at c2
      obtain ⟨b, b2, N, sa, q, t, m, pr, en, B, S, A, g⟩ := z_agX hW hR h9 hA.1 hGe c2 G8
      exact ⟨b, b2, N, sa, q, t, m, pr, en, B, S, A, fun _ => g⟩
    · exact ⟨0, 0, 0, 0, 0, 0, 0, 0, 0, fun _ => 0, fun _ => 0, 0, fun h => absurd h c⟩
  refine z_twoG (C := fun v v2 => v = v2) ?_
  rw [zzm144]
  show z_ev 2046 144 0 [some (.ref 4), some (.int x1), some (.int x2), some (.int x3), none, none] [] M _
  refine z_ev.mono (z_ev.and (zUC144 (d := 2040) (K := fun v M1 => ∃ y : Int32, v = some (.int y) ∧ z_X T zw144 M M1 ∧ z_aB (z_vK M x1) ((1 ≤ x2.toInt ∧ x2.toInt ≤ 3) ∧ 1 ≤ x3.toInt ∧ x3.toInt ≤ 31) m (z_ft (fun i => z_kpW x3.toInt.toNat ((z_Ar M 36 i).toInt.toNat + 4) B q pr en (z_Ar M 37 i).toInt.toNat (z_Ar M 38 i).toInt.toNat m x2.toInt.toNat S A) V.toInt.toNat y.toInt) y.toInt) hW hA.1 hch hD hV V20 V0 hwy (fun y M1 X h => ⟨y, rfl, X, h⟩)) (zOC144 (d := 2040) (K := fun _ M1 => z_oth T (z_Qt T) M M1) hW hW hbk hA.1 (fun _ M1 _ _ _ ho => ho))) (fun v M1 ⟨⟨y, hv, X1, h1⟩, ho⟩ => ?_)
  subst hv
  have hB := z_kee hA X1 (by decide)
  have hS : z_RR T M1 := hR.tri hW X1 ho rfl rfl rfl
  refine ⟨⟨y, rfl⟩, Or.inl ⟨X1.1.1.trans hW.1.symm, z_kep X1 (by decide)⟩, ?_⟩
  have hN : (z_Fv M1 19 13).toInt = (z_Fv M 4 3).toInt := (congrArg Int32.toInt (z_FvK (X1.2.1 19 12 0 0 0 0 13 k19 (by decide)))).trans v2
  have ev : z_vK M x1 ↔ y_vK M1 x1 := by
    unfold z_vK y_vK
    rw [hN]
  have hV1 : z_F M1 19 21 = some (.int V) := X1.2.f k19 (by decide) (hA.2.2.2.symm.trans hV)
  have e36 := X1.2.a (hW.k (k := 36) (κ := z_ai 36 20 0 7) rfl (by decide)) (by decide)
  have e37 := X1.2.a (hW.k (k := 37) (κ := z_ai 37 20 0 9) rfl (by decide)) (by decide)
  have e38 := X1.2.a (hW.k (k := 38) (κ := z_ai 38 20 0 8) rfl (by decide)) (by decide)
  rw [zzm271]
  show z_ev 2046 271 0 [some (.ref 19), some (.int x1), some (.int x2), some (.int x3), none, none, none] [] M1 _
  refine zYC271 (d := 2039) hB.1.1 hB.2.2.1 (fun h => (hD (ev.mpr h)).y hW X1.2 rfl) hV1 V20 V0 fun z M2 X2 h2 => ?_
  have hyz : y = z := by
    refine Int32.toInt_inj.mp (z_aBU h1 h2 ev fun hv hr m6 p1 p2 => ?_)
    rw [e36, e37, e38] at p2
    exact z_ftU p1 p2 fun _ _ => Iff.rfl
  exact ⟨⟨z, rfl⟩, by rw [hyz], ⟨T, z_kee hB X2 (by decide), hS.go hB.1.1 X2 rfl, (h9.tri hbk hW X1.2 ho (fun b q t m hb ⟨q2, t2, m2, h5⟩ => by rw [hb] at h5; cases h5)).go hS.2.2.1 hB.1.1 X2 rfl⟩, X2.1.1.trans X1.1.1.symm, z_kep X2 (by decide)⟩
