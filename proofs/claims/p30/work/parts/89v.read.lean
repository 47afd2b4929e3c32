/-! read of both sides -/
theorem z_cpYN {y n : Nat} (hy : y < 1024) (hn : n < 1024) (hd : ∀ k, k < 10 → y / 2 ^ k % 2 = 1 → n / 2 ^ k % 2 = 0) : z_cp (y + 1024 * n) 32 = z_cp (y ||| n) 31 := by
  have hd2 : ∀ k, y / 2 ^ k % 2 = 1 → n / 2 ^ k % 2 = 0 := fun k a => hd k (z_hi9 hy a) a
  have e1 : (y ||| n) &&& y = y := z_beqA fun k => by
    rw [z_land_bit, z_lor_bit]
    exact ⟨fun a => a.2, fun a => ⟨Or.inl a, a⟩⟩
  have e2 : (y ||| n) &&& n = n := z_beqA fun k => by
    rw [z_land_bit, z_lor_bit]
    exact ⟨fun a => a.2, fun a => ⟨Or.inr a, a⟩⟩
  have h := y_Vc (p := y ||| n) hd2 hy hn (fun _ a => a)
  rw [y_Vb hy, e1, e2] at h
  exact h
theorem z_andN {Y N : Int32} (y0 : 0 ≤ Y.toInt) (n0 : 0 ≤ N.toInt) (hy : Y.toInt.toNat < 1024) (hd : ∀ k, k < 10 → Y.toInt.toNat / 2 ^ k % 2 = 1 → N.toInt.toNat / 2 ^ k % 2 = 0) : (Y &&& N).toInt = 0 := by
  rw [z_z32]
  intro i hi
  rw [Int32.toBitVec_and, BitVec.getLsbD_and]
  cases a : Y.toBitVec.getLsbD i with
  | false => rfl
  | true =>
    cases b : N.toBitVec.getLsbD i with
    | false => rfl
    | true =>
      have a1 := (z_bt32 y0 i).mp a
      have b1 := (z_bt32 n0 i).mp b
      rw [hd i (z_hi9 hy a1) a1] at b1
      cases b1
theorem zT10 {x1 x2 x3 x4 : Int32} {M : zH} (hJA : z_JA M) (hJ : z_J M) : z_ev 2046 57 0 (z_ent [.ref 4, .int x1, .int x2, .int x3, .int x4] (z_ml 57)) [] M fun v M1 => (∃ y, v = some (.int y)) ∧ z_ev 2046 224 0 (z_ent [.ref 19, .int x1, .int x2, .int x3, .int x4] (z_ml 224)) [] M1 fun v2 M2 => (∃ y, v2 = some (.int y)) ∧ v = v2 ∧ z_J M2 ∧ M2.length ≤ M.length + 1171 ∧ z_szr M2 ≤ z_szr M + 14000 := by
  obtain ⟨T, hA, hR, h9⟩ := hJ
  obtain ⟨_, _, hRA⟩ := hJA
  have hS := hRA.2
  have hW := hA.1.1
  obtain ⟨v1, v2, v3, v4⟩ := z_R5.v hR.1
  have k4 : T[4]? = some (.inl (0, 0, 0, 0, 0)) := hW.k rfl (by decide)
  have k19 : T[19]? = some (.inl (12, 0, 0, 0, 0)) := hW.k rfl (by decide)
  refine z_twoG (C := fun v v2 => v = v2) ?_
  rw [zzm57]
  show z_ev 2046 57 0 [some (.ref 4), some (.int x1), some (.int x2), some (.int x3), some (.int x4), none, none] [] M _
  refine zUC57 (d := 2043) hW hW hR.2.2.1 hR.2.1 h9.r8 hA.1 fun y M1 X1 _ _ h1 => ?_
  have hB := z_kee hA X1 (by decide)
  refine ⟨⟨y, rfl⟩, Or.inl ⟨X1.1.1.trans hW.1.symm, z_kep X1 (by decide)⟩, ?_⟩
  rw [zzm224]
  show z_ev 2046 224 0 [some (.ref 19), some (.int x1), some (.int x2), some (.int x3), some (.int x4), none, none, none, none, none, none, none] [] M1 _
  refine zUC224 (d := 2044) hB.1.1 fun z M2 X2 h2 => ?_
  have hN : (z_Fv M1 19 13).toInt = (z_Fv M 4 3).toInt := (congrArg Int32.toInt (z_FvK (X1.2.1 19 12 0 0 0 0 13 k19 (by decide)))).trans v2
  have e49 : z_Ar M1 49 = z_Ar M 49 := X1.2.a (hW.k (k := 49) (κ := z_ai 49 6 (-1) 24) rfl (by decide)) (by decide)
  have e50 : z_Ar M1 50 = z_Ar M 50 := X1.2.a (hW.k (k := 50) (κ := z_ai 50 6 0 60) rfl (by decide)) (by decide)
  have e51 : z_Lg M1 51 = z_Lg M 51 := X1.2.lg (hW.k (k := 51) (κ := z_al 51 360) rfl (by decide)) (by decide)
  have key : y = z ∧ z_R7 T M2 ∧ z_R89 T M2 := by
    rcases z_qBs hR.2.2 hW X1.2 rfl rfl hN h1 h2 with ⟨e1, e2, q1, q2⟩ | ⟨A, b, q, t, m, pr, en, J, B, w, yy, n, hAe, hp, ob, kb, hY, q10, hm, J9, c1, c2, hj, r1, r2⟩
    · exact ⟨Int32.toInt_inj.mp (e1.trans e2.symm), hR.2.2.id hW X1.1 q1 q2, h9.id hR.2.2.1 hW X1.1 q1 q2⟩
    · have A8 : A.toInt ≤ 8 := by
        obtain ⟨A', hA', _, a8⟩ := hW.fi k4 (k := 3) (lo := 0) (hi := 8) (by decide) rfl
        rw [z_ive hAe hA']
        exact a8
      have e24 := hY.1
      have e31 := hY.2.2.2.2.1
      have e30 := hY.2.2.2.2.2.2
      have eq : (z_Ar M1 24 x1.toNatClampNeg).toInt.toNat = q := by omega
      have em : (z_Ar M1 31 x1.toNatClampNeg).toInt.toNat = z_lc B (2 ^ q) := by omega
      have eJ := c2.1
      obtain ⟨jv, ej, r1⟩ := r1
      have gJ : jv.toInt = (J : Int) := by
        obtain ⟨⟨xj, g1, g2⟩, _⟩ := c1
        rw [← z_ive g1 ej]
        exact g2
      rw [eq, eJ, e49, e50, e51] at r2
      rw [gJ] at r1
      rcases r1 with ⟨a1, a2, ka⟩ | ⟨a1, a2⟩
      · rcases r2 with ⟨b1, b2, ka2⟩ | ⟨b1, b2⟩
        · exact ⟨Int32.toInt_inj.mp (a1.trans b1.symm), hR.2.2.id hW X1.1 ka ka2, h9.id hR.2.2.1 hW X1.1 ka ka2⟩
        · exact absurd b1 a2
      · rcases r2 with ⟨b1, b2, _⟩ | ⟨b1, b2⟩
        · exact absurd a1 b2
        · have hd6 : x3.toNatClampNeg < 6 := by
            show x3.toInt.toNat < 6
            omega
          have hsh := hS.1 x3.toNatClampNeg hd6
          have h4 := hS.2 x3.toNatClampNeg
          unfold z_shf at hsh
          rcases a2 with ⟨a2, a3, a4, ka⟩ | ⟨a3, ww, aw, a4⟩
          · rcases b2 with ⟨b2, b3, b4, ka2⟩ | ⟨b3, _⟩
            · exact ⟨Int32.toInt_inj.mp (a2.trans b2.symm), hR.2.2.id hW X1.1 ka ka2, h9.id hR.2.2.1 hW X1.1 ka ka2⟩
            · exfalso
              rcases hsh with ⟨g1, g2⟩ | ⟨g1, i, g2, g3, _⟩ | ⟨g1, g2, g3, _⟩
              · omega
              · omega
              · omega
          · rcases b2 with ⟨b2, b3, b4, _⟩ | ⟨b3, Y, N, bw, b4⟩
            · exfalso
              rcases hsh with ⟨g1, g2⟩ | ⟨g1, i, g2, g3, _⟩ | ⟨g1, g2, g3, _⟩
              · omega
              · omega
              · omega
            · have hSZ : (if (z_Ar M 14 x3.toNatClampNeg).toInt = 4 then (z_Ar M 15 x3.toNatClampNeg).toInt else 0) = (if (z_Ar M 49 x3.toNatClampNeg).toInt = -1 then 0 else (z_Ar M 50 x3.toNatClampNeg).toInt) ∧ ((if (z_Ar M 14 x3.toNatClampNeg).toInt = 4 then (z_Ar M 15 x3.toNatClampNeg).toInt else 0) = 0 ∨ ((z_Ar M 14 x3.toNatClampNeg).toInt = 4 ∧ (if (z_Ar M 14 x3.toNatClampNeg).toInt = 4 then (z_Ar M 15 x3.toNatClampNeg).toInt else 0) = (z_Ar M 15 x3.toNatClampNeg).toInt)) := by
                rcases hsh with ⟨g1, g2⟩ | ⟨g1, i, g2, g3, _⟩ | ⟨g1, g2, g3, g4, _⟩
                · rw [if_neg (by omega), if_pos g2]
                  exact ⟨rfl, Or.inl rfl⟩
                · exfalso; omega
                · rcases a3 with a3 | a3
                  · exfalso; omega
                  · rw [if_pos a3, if_neg (by omega), g4]
                    exact ⟨rfl, Or.inr ⟨a3, rfl⟩⟩
              rw [← hSZ.1] at bw
              have hw := z_rdT aw bw (fun k i0 hk => by
                rcases hSZ.2 with g | ⟨g1, g2⟩
                · rw [g] at hk
                  exfalso; omega
                · rw [g2] at hk
                  exact h4 (x4.toInt.toNat + k) hd6 (by omega) (by omega) (by omega))
              have hYb := bw.1
              have hNb := bw.2.1
              have eY : ww.toInt.toNat % 1024 = Y.toInt.toNat := by omega
              have eN : ww.toInt.toNat / 1024 = N.toInt.toNat := by omega
              have hlt := aw.lt q10
              have hbits := aw.bits.2.2
              rw [eY, eN] at hlt a4
              rw [eY, eN] at hbits
              have ec := y_csE (y := Y) (n := N) e30 em q10 ⟨by omega, by omega⟩ ⟨by omega, by omega⟩
              rcases a4 with ⟨a4, a5, ka⟩ | ⟨a5, a6, ho, f4, f1, ln, Yc, Nc, gy, gn, hs⟩
              · rcases b4 with ⟨b4, b5, ka2⟩ | ⟨b5, _⟩
                · exact ⟨Int32.toInt_inj.mp (a4.trans b4.symm), hR.2.2.id hW X1.1 ka ka2, h9.id hR.2.2.1 hW X1.1 ka ka2⟩
                · exact absurd (ec.mp b5) a5
              · rcases b4 with ⟨b4, b5, _⟩ | ⟨_, b6, hs2⟩
                · exact absurd (ec.mpr a5) b5
                · have eYc : Yc = Y := Int32.toInt_inj.mp (by omega)
                  have eNc : Nc = N := Int32.toInt_inj.mp (by omega)
                  subst eYc
                  subst eNc
                  have hx : y = z := by
                    refine Int32.toInt_inj.mp ?_
                    rw [a6, b6, show ww.toInt.toNat = Yc.toInt.toNat + 1024 * Nc.toInt.toNat by omega, z_cpYN (by omega) (by omega) hbits]
                  have h32 : z_Ar M2 32 = z_Ar M1 32 := X2.2.a (hW.k (k := 32) (κ := z_af 32 72) rfl (by decide)) (by decide)
                  have h35 : z_Ar M2 35 = z_Ar M1 35 := X2.2.a (hW.k (k := 35) (κ := z_ai 35 8 0 9) rfl (by decide)) (by decide)
                  have hans : z_ans q Yc Nc := ⟨⟨by omega, by have := hlt.1; generalize 2 ^ q = P at *; omega⟩, ⟨by omega, by have := hlt.2; generalize 2 ^ q = P at *; omega⟩, z_andN (by omega) (by omega) (by omega) hbits⟩
                  refine ⟨hx, hR.2.2.one hW hAe (z_pc hp) A8 ob kb X1.2 rfl rfl ho X1.1 X2.2 rfl rfl (fun a2 h8 ne => ?_) ⟨J, _, _, _, J9, c1.al (by omega) hs f4 f1, c2.al rfl hp.1 (by omega) h32 h35 hs2, z_jok.al hj hans⟩, (h9.one ho kb ⟨ln, (h9 _ _ _ _ kb).2.ke hR.2.2.1 hW kb X1.2 rfl⟩).go (hR.2.2.1.ke X1.2 rfl) X1.1 X2 rfl⟩
                  obtain ⟨i, hi, u33, i2, hi2, u34⟩ := hs2
                  have ei : i.toNatClampNeg = 9 * x1.toNatClampNeg + x2.toInt.toNat := by
                    show i.toInt.toNat = 9 * x1.toInt.toNat + x2.toInt.toNat
                    omega
                  have ei2 : i2.toNatClampNeg = 9 * x1.toNatClampNeg + x2.toInt.toNat := by
                    show i2.toInt.toNat = 9 * x1.toInt.toNat + x2.toInt.toNat
                    omega
                  rw [ei] at u33
                  rw [ei2] at u34
                  exact ⟨by rw [h35], fun j hj9 => ⟨by rw [h32], y_hro u33 (by omega) hj9 ne, y_hro u34 (by omega) hj9 ne⟩⟩
  exact ⟨⟨z, rfl⟩, by rw [key.1], ⟨T, z_kee hB X2 (by decide), hR.two7 hW X1 X2 rfl rfl key.2.1, key.2.2⟩, X2.1.1.trans X1.1.1.symm, z_kep X2 (by decide)⟩
