/-! judge, change, clear of both sides -/
def z_Q8 (I : zH → Prop) : Prop := ∀ (x1 : Int32) (x2 : Int32) (x3 : Int32) (x4 : Int32) (M : zH), I M → z_ev 2046 52 0 (z_ent [.ref 4, .int x1, .int x2, .int x3, .int x4] (z_ml 52)) [] M fun v M1 => (∃ y, v = some (.int y)) ∧ z_ev 2046 221 0 (z_ent [.ref 19, .int x1, .int x2, .int x3, .int x4] (z_ml 221)) [] M1 fun v2 M2 => (∃ y, v2 = some (.int y)) ∧ v = v2 ∧ I M2 ∧ M2.length ≤ M.length + 1171 ∧ z_szr M2 ≤ z_szr M + 14000
def z_Q9 (I : zH → Prop) : Prop := ∀ (x1 : Int32) (x2 : Int32) (x3 : Int32) (x4 : Int32) (M : zH), I M → z_ev 2046 55 0 (z_ent [.ref 4, .int x1, .int x2, .int x3, .int x4] (z_ml 55)) [] M fun v M1 => (∃ y, v = some (.int y)) ∧ z_ev 2046 222 0 (z_ent [.ref 19, .int x1, .int x2, .int x3, .int x4] (z_ml 222)) [] M1 fun v2 M2 => (∃ y, v2 = some (.int y)) ∧ v = v2 ∧ I M2 ∧ M2.length ≤ M.length + 1171 ∧ z_szr M2 ≤ z_szr M + 14000
def z_Q11 (I : zH → Prop) : Prop := ∀ (x1 : Int32) (M : zH), I M → z_ev 2046 60 0 (z_ent [.ref 4, .int x1] (z_ml 60)) [] M fun v M1 => (∃ y, v = some (.int y)) ∧ z_ev 2046 226 0 (z_ent [.ref 19, .int x1] (z_ml 226)) [] M1 fun v2 M2 => (∃ y, v2 = some (.int y)) ∧ v = v2 ∧ I M2 ∧ M2.length ≤ M.length + 1171 ∧ z_szr M2 ≤ z_szr M + 14000
theorem zS8 : z_Q8 z_J := by
  intro x1 x2 x3 x4 M ⟨T, hA, hR, h9⟩
  have hW := hA.1.1
  obtain ⟨v1, v2, v3, v4⟩ := z_R5.v hR.1
  have k4 : T[4]? = some (.inl (0, 0, 0, 0, 0)) := hW.k rfl (by decide)
  have k19 : T[19]? = some (.inl (12, 0, 0, 0, 0)) := hW.k rfl (by decide)
  refine z_twoG (C := fun v v2 => v = v2) ?_
  rw [zzm52]
  show z_ev 2046 52 0 [some (.ref 4), some (.int x1), some (.int x2), some (.int x3), some (.int x4), none] [] M _
  refine zUC52 (d := 2043) hW hW hR.2.2.1 hR.2.1 h9.r8 hA.1 fun y M1 X1 _ _ h1 => ?_
  have hB := z_kee hA X1 (by decide)
  refine ⟨⟨y, rfl⟩, Or.inl ⟨X1.1.1.trans hW.1.symm, z_kep X1 (by decide)⟩, ?_⟩
  rw [zzm221]
  show z_ev 2046 221 0 [some (.ref 19), some (.int x1), some (.int x2), some (.int x3), some (.int x4), none] [] M1 _
  refine zUC221 (d := 2044) hB.1.1 fun z M2 X2 _ _ h2 => ?_
  have hN : (z_Fv M1 19 13).toInt = (z_Fv M 4 3).toInt := (congrArg Int32.toInt (z_FvK (X1.2.1 19 12 0 0 0 0 13 k19 (by decide)))).trans v2
  have key : y = z ∧ z_R7 T M2 ∧ z_R89 T M2 := by
    rcases z_qBs hR.2.2 hW X1.2 rfl rfl hN h1 h2 with ⟨e1, e2, q1, q2⟩ | ⟨A, b, q, t, m, pr, en, J, B, w, yy, n, hAe, hp, ob, kb, hY, q10, hm, J9, c1, c2, hj, r1, r2⟩
    · exact ⟨Int32.toInt_inj.mp (e1.trans e2.symm), hR.2.2.id hW X1.1 q1 q2, h9.id hR.2.2.1 hW X1.1 q1 q2⟩
    · have A8 : A.toInt ≤ 8 := by
        obtain ⟨A', hA', _, a8⟩ := hW.fi k4 (k := 3) (lo := 0) (hi := 8) (by decide) rfl
        rw [z_ive hAe hA']
        exact a8
      have e24 := hY.1
      have e31 := hY.2.2.2.2.1
      have e30 := hY.2.2.2.2.2.2
      have eq : (z_Ar M1 24 x1.toNatClampNeg).toInt.toNat = q := by omega
      have em : (z_Ar M1 31 x1.toNatClampNeg).toInt.toNat = z_lc B (2 ^ q) := by omega
      have eJ := c2.1
      rw [eq, eJ] at r2
      rcases r1 with ⟨a1, a2, ka⟩ | ⟨a1, a2⟩
      · rcases r2 with ⟨b1, b2, ka2⟩ | ⟨b1, b2⟩
        · exact ⟨Int32.toInt_inj.mp (a1.trans b1.symm), hR.2.2.id hW X1.1 ka ka2, h9.id hR.2.2.1 hW X1.1 ka ka2⟩
        · exact absurd b1 a2
      · rcases r2 with ⟨b1, b2, _⟩ | ⟨b1, b2⟩
        · exact absurd a1 b2
        · have hl := a1.1.lt q10
          have ec := y_csE e30 em q10 ⟨hl.1.1, hl.1.2.1⟩ ⟨hl.2.1, hl.2.2.1⟩
          rcases a2 with ⟨a2, a3, ka⟩ | ⟨a3, jv, ej, a4⟩
          · rcases b2 with ⟨b2, b3, ka2⟩ | ⟨b3, _⟩
            · exact ⟨Int32.toInt_inj.mp (a2.trans b2.symm), hR.2.2.id hW X1.1 ka ka2, h9.id hR.2.2.1 hW X1.1 ka ka2⟩
            · exact absurd (ec.mp b3) a3
          · rcases b2 with ⟨_, b3, _⟩ | ⟨_, b4⟩
            · exact absurd (ec.mpr a3) b3
            · have gJ : jv.toInt = (J : Int) := by
                obtain ⟨⟨xj, g1, g2⟩, _⟩ := c1
                rw [← z_ive g1 ej]
                exact g2
              rcases a4 with ⟨a4, a5, ka⟩ | ⟨a5, a6, ho, hs, ln⟩
              · rcases b4 with ⟨b4, b5, ka2⟩ | ⟨b5, _⟩
                · exact ⟨Int32.toInt_inj.mp (a4.trans b4.symm), hR.2.2.id hW X1.1 ka ka2, h9.id hR.2.2.1 hW X1.1 ka ka2⟩
                · exfalso; omega
              · rcases b4 with ⟨b4, b5, _⟩ | ⟨b5, b6, hs2⟩
                · exfalso; omega
                · refine ⟨Int32.toInt_inj.mp (by omega), hR.2.2.one hW hAe (z_pc hp) A8 ob kb X1.2 rfl rfl ho X1.1 X2.2 rfl rfl (fun a2 h8 ne => ?_) ⟨J + 1, _, _, _, by omega, c1.se ej (by omega) hs, c2.se rfl hp.1 hs2, z_jok.st hj ⟨a1.1, a1.2⟩⟩, (h9.one ho kb ⟨ln, (h9 _ _ _ _ kb).2.ke hR.2.2.1 hW kb X1.2 rfl⟩).go (hR.2.2.1.ke X1.2 rfl) X1.1 X2 rfl⟩
                  obtain ⟨⟨v, _, u35⟩, i, hi, u32, u33, u34⟩ := hs2
                  have ei : i.toNatClampNeg = 9 * x1.toNatClampNeg + J := by
                    show i.toInt.toNat = 9 * x1.toInt.toNat + J
                    omega
                  rw [ei] at u32 u33 u34
                  exact ⟨by rw [u35]; show (if a2 = x1.toNatClampNeg then v else z_Ar M1 35 a2) = _; rw [if_neg ne], fun j hj9 => ⟨y_hro u32 (by omega) hj9 ne, y_hro u33 (by omega) hj9 ne, y_hro u34 (by omega) hj9 ne⟩⟩

  exact ⟨⟨z, rfl⟩, by rw [key.1], ⟨T, z_kee hB X2 (by decide), hR.two7 hW X1 X2 rfl rfl key.2.1, key.2.2⟩, X2.1.1.trans X1.1.1.symm, z_kep X2 (by decide)⟩
theorem zS9 : z_Q9 z_J := by
  intro x1 x2 x3 x4 M ⟨T, hA, hR, h9⟩
  have hW := hA.1.1
  obtain ⟨v1, v2, v3, v4⟩ := z_R5.v hR.1
  have k4 : T[4]? = some (.inl (0, 0, 0, 0, 0)) := hW.k rfl (by decide)
  have k19 : T[19]? = some (.inl (12, 0, 0, 0, 0)) := hW.k rfl (by decide)
  refine z_twoG (C := fun v v2 => v = v2) ?_
  rw [zzm55]
  show z_ev 2046 55 0 [some (.ref 4), some (.int x1), some (.int x2), some (.int x3), some (.int x4), none] [] M _
  refine zUC55 (d := 2043) hW hW hR.2.2.1 hR.2.1 h9.r8 hA.1 fun y M1 X1 _ _ h1 => ?_
  have hB := z_kee hA X1 (by decide)
  refine ⟨⟨y, rfl⟩, Or.inl ⟨X1.1.1.trans hW.1.symm, z_kep X1 (by decide)⟩, ?_⟩
  rw [zzm222]
  show z_ev 2046 222 0 [some (.ref 19), some (.int x1), some (.int x2), some (.int x3), some (.int x4)] [] M1 _
  refine zUC222 (d := 2044) hB.1.1 fun z M2 X2 _ _ h2 => ?_
  have hN : (z_Fv M1 19 13).toInt = (z_Fv M 4 3).toInt := (congrArg Int32.toInt (z_FvK (X1.2.1 19 12 0 0 0 0 13 k19 (by decide)))).trans v2
  have key : y = z ∧ z_R7 T M2 ∧ z_R89 T M2 := by
    rcases z_qBs hR.2.2 hW X1.2 rfl rfl hN h1 h2 with ⟨e1, e2, q1, q2⟩ | ⟨A, b, q, t, m, pr, en, J, B, w, yy, n, hAe, hp, ob, kb, hY, q10, hm, J9, c1, c2, hj, r1, r2⟩
    · exact ⟨Int32.toInt_inj.mp (e1.trans e2.symm), hR.2.2.id hW X1.1 q1 q2, h9.id hR.2.2.1 hW X1.1 q1 q2⟩
    · have A8 : A.toInt ≤ 8 := by
        obtain ⟨A', hA', _, a8⟩ := hW.fi k4 (k := 3) (lo := 0) (hi := 8) (by decide) rfl
        rw [z_ive hAe hA']
        exact a8
      have e24 := hY.1
      have e31 := hY.2.2.2.2.1
      have e30 := hY.2.2.2.2.2.2
      have eq : (z_Ar M1 24 x1.toNatClampNeg).toInt.toNat = q := by omega
      have em : (z_Ar M1 31 x1.toNatClampNeg).toInt.toNat = z_lc B (2 ^ q) := by omega
      have eJ := c2.1
      rw [eq, eJ] at r2
      obtain ⟨jv, ej, r1⟩ := r1
      have gJ : jv.toInt = (J : Int) := by
        obtain ⟨⟨xj, g1, g2⟩, _⟩ := c1
        rw [← z_ive g1 ej]
        exact g2
      rw [gJ] at r1
      rcases r1 with ⟨a1, a2, ka⟩ | ⟨a1, a2⟩
      · rcases r2 with ⟨b1, b2, ka2⟩ | ⟨b1, b2⟩
        · exact ⟨Int32.toInt_inj.mp (a1.trans b1.symm), hR.2.2.id hW X1.1 ka ka2, h9.id hR.2.2.1 hW X1.1 ka ka2⟩
        · exact absurd b1 a2
      · rcases r2 with ⟨b1, b2, _⟩ | ⟨b1, b2⟩
        · exact absurd a1 b2
        · have hl := a1.1.lt q10
          have ec := y_csE e30 em q10 ⟨hl.1.1, hl.1.2.1⟩ ⟨hl.2.1, hl.2.2.1⟩
          rcases a2 with ⟨a2, a3, ka⟩ | ⟨a3, a4, ho, hs, f4, f1, ln⟩
          · rcases b2 with ⟨b2, b3, ka2⟩ | ⟨b3, _⟩
            · exact ⟨Int32.toInt_inj.mp (a2.trans b2.symm), hR.2.2.id hW X1.1 ka ka2, h9.id hR.2.2.1 hW X1.1 ka ka2⟩
            · exact absurd (ec.mp b3) a3
          · rcases b2 with ⟨_, b3, _⟩ | ⟨_, b4, hs2⟩
            · exact absurd (ec.mpr a3) b3
            · have h32 : z_Ar M2 32 = z_Ar M1 32 := X2.2.a (hW.k (k := 32) (κ := z_af 32 72) rfl (by decide)) (by decide)
              have h35 : z_Ar M2 35 = z_Ar M1 35 := X2.2.a (hW.k (k := 35) (κ := z_ai 35 8 0 9) rfl (by decide)) (by decide)
              refine ⟨Int32.toInt_inj.mp (a4.trans b4.symm), hR.2.2.one hW hAe (z_pc hp) A8 ob kb X1.2 rfl rfl ho X1.1 X2.2 rfl rfl (fun a2 h8 ne => ?_) ⟨J, _, _, _, J9, c1.al a1.2.1 hs f4 f1, c2.al rfl hp.1 a1.2.1 h32 h35 hs2, z_jok.al hj a1.1⟩, (h9.one ho kb ⟨ln, (h9 _ _ _ _ kb).2.ke hR.2.2.1 hW kb X1.2 rfl⟩).go (hR.2.2.1.ke X1.2 rfl) X1.1 X2 rfl⟩
              obtain ⟨i, hi, u33, i2, hi2, u34⟩ := hs2
              have ei : i.toNatClampNeg = 9 * x1.toNatClampNeg + x2.toInt.toNat := by
                show i.toInt.toNat = 9 * x1.toInt.toNat + x2.toInt.toNat
                omega
              have ei2 : i2.toNatClampNeg = 9 * x1.toNatClampNeg + x2.toInt.toNat := by
                show i2.toInt.toNat = 9 * x1.toInt.toNat + x2.toInt.toNat
                omega
              rw [ei] at u33
              rw [ei2] at u34
              exact ⟨by rw [h35], fun j hj9 => ⟨by rw [h32], y_hro u33 (by omega) hj9 ne, y_hro u34 (by omega) hj9 ne⟩⟩

  exact ⟨⟨z, rfl⟩, by rw [key.1], ⟨T, z_kee hB X2 (by decide), hR.two7 hW X1 X2 rfl rfl key.2.1, key.2.2⟩, X2.1.1.trans X1.1.1.symm, z_kep X2 (by decide)⟩
theorem zS11 : z_Q11 z_J := by
  intro x1 M ⟨T, hA, hR, h9⟩
  have hW := hA.1.1
  obtain ⟨v1, v2, v3, v4⟩ := z_R5.v hR.1
  have k4 : T[4]? = some (.inl (0, 0, 0, 0, 0)) := hW.k rfl (by decide)
  have k19 : T[19]? = some (.inl (12, 0, 0, 0, 0)) := hW.k rfl (by decide)
  refine z_twoG (C := fun v v2 => v = v2) ?_
  rw [zzm60]
  show z_ev 2046 60 0 [some (.ref 4), some (.int x1), none, none] [] M _
  refine zUC60 (d := 2044) hW hW hR.2.2.1 hR.2.1 h9.r8 hA.1 fun y M1 X1 _ _ h1 => ?_
  have hB := z_kee hA X1 (by decide)
  refine ⟨⟨y, rfl⟩, Or.inl ⟨X1.1.1.trans hW.1.symm, z_kep X1 (by decide)⟩, ?_⟩
  rw [zzm226]
  show z_ev 2046 226 0 [some (.ref 19), some (.int x1), none] [] M1 _
  refine zUC226 (d := 2045) hB.1.1 fun z M2 X2 _ _ h2 => ?_
  have hN : (z_Fv M1 19 13).toInt = (z_Fv M 4 3).toInt := (congrArg Int32.toInt (z_FvK (X1.2.1 19 12 0 0 0 0 13 k19 (by decide)))).trans v2
  have key : y = z ∧ z_R7 T M2 ∧ z_R89 T M2 := by
    rcases z_qBs hR.2.2 hW X1.2 rfl rfl hN h1 h2 with ⟨e1, e2, q1, q2⟩ | ⟨A, b, q, t, m, pr, en, J, B, w, yy, n, hAe, hp, ob, kb, hY, q10, hm, J9, c1, c2, hj, r1, r2⟩
    · exact ⟨Int32.toInt_inj.mp (e1.trans e2.symm), hR.2.2.id hW X1.1 q1 q2, h9.id hR.2.2.1 hW X1.1 q1 q2⟩
    · have A8 : A.toInt ≤ 8 := by
        obtain ⟨A', hA', _, a8⟩ := hW.fi k4 (k := 3) (lo := 0) (hi := 8) (by decide) rfl
        rw [z_ive hAe hA']
        exact a8
      obtain ⟨f1, ho, f2, ln⟩ := r1
      obtain ⟨g1, u35⟩ := r2
      have gJ : y.toInt = (J : Int) := by
        obtain ⟨⟨xj, g1, g2⟩, _⟩ := c1
        rw [← z_ive g1 f1]
        exact g2
      have eJ := c2.1
      have h32 : z_Ar M2 32 = z_Ar M1 32 := X2.2.a (hW.k (k := 32) (κ := z_af 32 72) rfl (by decide)) (by decide)
      have h33 : z_Ar M2 33 = z_Ar M1 33 := X2.2.a (hW.k (k := 33) (κ := z_af 33 72) rfl (by decide)) (by decide)
      have h34 : z_Ar M2 34 = z_Ar M1 34 := X2.2.a (hW.k (k := 34) (κ := z_af 34 72) rfl (by decide)) (by decide)
      refine ⟨Int32.toInt_inj.mp (by omega), hR.2.2.one hW hAe (z_pc hp) A8 ob kb X1.2 rfl rfl ho X1.1 X2.2 rfl rfl (fun a2 h8 ne => ⟨by rw [u35]; show (if a2 = x1.toNatClampNeg then 0 else z_Ar M1 35 a2) = _; rw [if_neg ne], fun j hj9 => ⟨by rw [h32], by rw [h33], by rw [h34]⟩⟩) ⟨0, w, yy, n, by omega, ⟨⟨0, f2, rfl⟩, fun j hj => absurd hj (Nat.not_lt_zero j)⟩, ⟨?_, fun j hj => absurd hj (Nat.not_lt_zero j)⟩, fun j hj => absurd hj (Nat.not_lt_zero j)⟩, (h9.one ho kb ⟨ln, (h9 _ _ _ _ kb).2.ke hR.2.2.1 hW kb X1.2 rfl⟩).go (hR.2.2.1.ke X1.2 rfl) X1.1 X2 rfl⟩
      rw [u35]
      show (if x1.toNatClampNeg = x1.toNatClampNeg then (0 : Int32) else z_Ar M1 35 x1.toNatClampNeg).toInt = _
      rw [if_pos rfl]
      rfl

  exact ⟨⟨z, rfl⟩, by rw [key.1], ⟨T, z_kee hB X2 (by decide), hR.two7 hW X1 X2 rfl rfl key.2.1, key.2.2⟩, X2.1.1.trans X1.1.1.symm, z_kep X2 (by decide)⟩
