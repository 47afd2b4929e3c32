/-! outcome of both sides -/
theorem z_oJof {T : List zK} {M : zH} {a b N q t m pr en J c sh ch : Nat} {B : Nat → Nat} {jv : Int32} {ww yy nn : Nat → Int32} {x : Int} (hTB : z_tob T M a b N q t m pr en J B jv ww yy nn) (h : z_dq c M b B q pr en sh jv.toInt.toNat ch x) : z_oJ c B q pr en sh J ch ww yy nn (x.toNat % 1024) (x.toNat / 1024) := by
  obtain ⟨_, ej, _, _, cb, _, _, hL⟩ := hTB
  have eJ : jv.toInt.toNat = J := by omega
  rw [eJ] at h
  exact ⟨_, _, _, fun k hk => hL k hk, fun j hj => ⟨by rw [(cb.2 j hj).2.1], by rw [(cb.2 j hj).2.2]⟩, h.2⟩
theorem z_tob.y {T : List zK} {M M1 : zH} {a b N q t m pr en J : Nat} {B : Nat → Nat} {jv : Int32} {ww yy nn : Nat → Int32} {rs : List Nat} (h : z_tob T M a b N q t m pr en J B jv ww yy nn) (hW : z_W M T) (ke : z_ke T rs M M1) (hs : (z_agr.all fun x => !rs.elem x) = true) (hc : (([32, 33, 34, 35] : List Nat).all fun x => !rs.elem x) = true) : y_tob M1 a q t m pr en J B ww yy nn := by
  obtain ⟨hAB, _, J9, _, _, yb, jok, _⟩ := h
  have g := hW.p3 hAB.2.1
  exact ⟨⟨by omega, by omega⟩, hAB.2.2.2.2.ke hW ke hs, ⟨hAB.2.2.2.1.2.2.1, by omega⟩, J9, yb.ke hW ke hc, jok⟩
/-- a way of both sides -/
theorem z_wayof {T TA : List zK} {M : zH} (hWA : z_W M TA) (hW : z_W M T) (h1 : z_Rw1 TA M) {V p sh ch : Int32} (hV : z_F M 4 5 = some (.int V)) (hp : 0 ≤ p.toInt ∧ p.toInt < V.toInt) {w c : Nat} (ow : z_O M 12 p.toNatClampNeg = some w) (kw : T[w]? = some (.inl (c, 0, 0, 0, 0))) (fs : z_F M w 1 = some (.int sh)) (fc : z_F M w 2 = some (.int ch)) : (4 ≤ c ∧ c ≤ 11) ∧ (z_Ar M 36 p.toNatClampNeg).toInt + 4 = (c : Int) ∧ sh = z_Ar M 37 p.toNatClampNeg ∧ ch = z_Ar M 38 p.toNatClampNeg := by
  obtain ⟨b, kd, r1, r2, r3, r4, _, r6, r7, _⟩ := h1 V hV p.toNatClampNeg (z_pc hp)
  obtain rfl : w = b := Option.some.inj (ow.symm.trans r1)
  obtain ⟨fs1, e1, _⟩ := hWA.ob r3
  obtain ⟨fs2, e2, _⟩ := hW.ob kw
  rw [e1] at e2
  have e3 : 4 + kd = c := congrArg Prod.fst (Sum.inr.inj (Option.some.inj e2))
  exact ⟨⟨by omega, by omega⟩, by omega, z_ivL fs r6, z_ivL fc r7⟩
theorem zT18 {x1 x2 x3 : Int32} {M : zH} (hJA : z_JA M) (hJ : z_J M) : z_ev 2046 85 0 (z_ent [.ref 4, .int x1, .int x2, .int x3] (z_ml 85)) [] M fun v M1 => (∃ y, v = some (.int y)) ∧ z_ev 2046 238 0 (z_ent [.ref 19, .int x1, .int x2, .int x3] (z_ml 238)) [] M1 fun v2 M2 => (∃ y, v2 = some (.int y)) ∧ v = v2 ∧ z_J M2 ∧ M2.length ≤ M.length + 1171 ∧ z_szr M2 ≤ z_szr M + 14000 := by
  obtain ⟨TA, hAA, hRA⟩ := hJA
  obtain ⟨T, hA, hR, h9⟩ := hJ
  have hW := hA.1.1
  have hbk := hR.2.2.1
  obtain ⟨v1, v2, v3, v4⟩ := z_R5.v hR.1
  have k4 : T[4]? = some (.inl (0, 0, 0, 0, 0)) := hW.k rfl (by decide)
  have k19 : T[19]? = some (.inl (12, 0, 0, 0, 0)) := hW.k rfl (by decide)
  obtain ⟨V, hV, _, _⟩ := hW.fi k4 (k := 5) (lo := 0) (hi := 20) (by decide) rfl
  refine z_twoG (C := fun v v2 => v = v2) ?_
  rw [zzm85]
  show z_ev 2046 85 0 [some (.ref 4), some (.int x1), some (.int x2), some (.int x3), none, none, none] [] M _
  refine zUC85 (d := 2042) hW hR h9 hA.1 fun y M1 X1 h1 => ?_
  have hB := z_kee hA X1 (by decide)
  refine ⟨⟨y, rfl⟩, Or.inl ⟨X1.1.1.trans hW.1.symm, z_kep X1 (by decide)⟩, ?_⟩
  have hN : (z_Fv M1 19 13).toInt = (z_Fv M 4 3).toInt := (congrArg Int32.toInt (z_FvK (X1.2.1 19 12 0 0 0 0 13 k19 (by decide)))).trans v2
  have hN5 : (z_Fv M1 19 21).toInt = (z_Fv M 4 5).toInt := by
    have e1 := z_FvK (X1.2.1 19 12 0 0 0 0 21 k19 (by decide))
    have e2 : z_Fv M 19 21 = z_Fv M 4 5 := by
      unfold z_Fv
      rw [hA.2.2.2]
    rw [e1, e2]
  have h71 : z_R7 T M1 := hR.2.2.ke hW (fun _ _ h => h) (hbk.ke X1.2 rfl) X1.2 rfl
  have ev : y_vO M1 x1 x2 x3 ↔ z_vO M x1 x2 x3 := by
    unfold y_vO z_vO
    rw [hN, hN5]
  obtain ⟨q, t, m, pr, en, J, B, ww, yy, nn, hTB, hcmp, h91⟩ : ∃ (q t m pr en J : Nat) (B : Nat → Nat) (ww yy nn : Nat → Int32), (y_vO M1 x1 x2 x3 → y_tob M1 x2.toNatClampNeg q t m pr en J B ww yy nn) ∧ (∀ z : Int32, y_cO M1 x1 x2 x3 q t pr en J B ww yy nn z.toInt → y = z) ∧ z_R89 T M1 := by
    rcases h1 with ⟨e1, n1, k1⟩ | ⟨w1, w, c, b, N, q, t, m, pr, en, J, B, sh, jv, ch, dv, ww, yy, nn, ow, kw, hD, hTB, hdq, hoa, ho, lz⟩
    · refine ⟨0, 0, 0, 0, 0, 0, fun _ => 0, fun _ => 0, fun _ => 0, fun _ => 0, fun h => absurd (ev.mp h) n1, fun z h2 => ?_, h9.ke hbk hW (fun _ _ _ _ _ h => h) k1 rfl⟩
      rcases h2 with ⟨e2, _⟩ | ⟨w2, _⟩
      · exact Int32.toInt_inj.mp (e1.trans e2.symm)
      · exact absurd (ev.mp w2) n1
    · have kb := hD.2.1
      refine ⟨q, t, m, pr, en, J, B, ww, yy, nn, fun _ => hTB.y hW X1.2 rfl rfl, fun z h2 => ?_, h9.one ho kb ⟨(h9 _ _ _ _ kb).1.ke hbk hW kb X1.2 rfl, lz⟩⟩
      rcases h2 with ⟨_, n2⟩ | ⟨_, kd, sh2, ch2, yv, nv, ek, es, ec, hoJ, hoa2⟩
      · exact absurd (ev.mpr w1) n2
      · have hp : 0 ≤ x1.toInt ∧ x1.toInt < V.toInt := by
          have h := w1.1
          rw [z_Fv.of hV] at h
          exact h
        obtain ⟨hc, g36, g37, g38⟩ := z_wayof hAA.1.1 hW hRA.1 hV hp ow kw hD.2.2.2.2.2.2.2.2.1 hD.2.2.2.2.2.2.2.2.2
        rw [X1.2.a (hW.k (k := 36) (κ := z_ai 36 20 0 7) rfl (by decide)) (by decide)] at ek
        rw [X1.2.a (hW.k (k := 37) (κ := z_ai 37 20 0 9) rfl (by decide)) (by decide), ← g37] at es
        rw [X1.2.a (hW.k (k := 38) (κ := z_ai 38 20 0 8) rfl (by decide)) (by decide), ← g38] at ec
        have hq := hW.p3 kb
        have o1 := z_oJof hTB hdq
        rw [show kd + 4 = c by omega] at hoJ
        rw [show sh.toInt.toNat = sh2 by omega, show ch.toInt.toNat = ch2 by omega] at o1
        obtain ⟨ey, en⟩ := z_oJU o1 hoJ (by omega)
        rw [ey, en] at hoa
        exact Int32.toInt_inj.mp (z_oAU hoa hoa2)
  rw [zzm238]
  show z_ev 2046 238 0 [some (.ref 19), some (.int x1), some (.int x2), some (.int x3)] [] M1 _
  refine zUC238 (d := 2041) hB.1.1 hTB fun z M2 X2 h2 => ?_
  exact ⟨⟨z, rfl⟩, by rw [hcmp z h2], ⟨T, z_kee hB X2 (by decide), hR.two7 hW X1 X2 rfl rfl (h71.ke X1.1 (fun _ _ h => h) (h71.1.ke X2.2 rfl) X2.2 rfl), h91.go (hbk.ke X1.2 rfl) X1.1 X2 rfl⟩, X2.1.1.trans X1.1.1.symm, z_kep X2 (by decide)⟩
