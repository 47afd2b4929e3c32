/-! act, trace: both answers the same -/
/-- act, on both sides: the same bodies ran -/
theorem z_actK {T : List zK} {M M1 M2 : zH} (hA : z_inv T M) (hR : z_RRA T M) (X1 : z_X T zw159 M M1) (X2 : z_X T zw276 M1 M2) (l : List Int32) (hl : l.length < 900) (a13 : z_Ar M1 13 = z_nts l (upd (z_Ar M 13) 0 0)) (a48 : z_Ar M2 48 = z_nrs 0 l (z_Ar M1 48)) {m : Int} (hn : ∃ n : Int32, z_F M2 19 47 = some (.int n) ∧ n.toInt = m) (hm : m = (l.length : Int)) : z_JA M2 ∧ M2.length = M1.length ∧ z_pot M2 = z_pot M1 := by
  have hB := z_kee hA X1 (by decide)
  have hC := z_kee hB X2 (by decide)
  have k13 := X1.1.k (k := 13) (κ := z_ai 13 25 (-2147483648) 2147483647) rfl (by decide)
  obtain ⟨n, n1, n2⟩ := hn
  refine ⟨⟨T, hC, ⟨(hR.1.1.ke hA.1.1 X1.2 (by decide)).ke X1.1 X2.2 (by decide), n, n1, ?_⟩, (hR.2.1.ke hA.1.1 (fun _ _ h => h) X1.2 rfl).ke X1.1 (fun _ _ h => h) X2.2 rfl, (hR.2.2.ke hA.1.1 X1.2 rfl).ke X1.1 X2.2 rfl⟩, X2.1.1.trans X1.1.1.symm, z_kep X2 (by decide)⟩
  rw [a48, X2.2.a k13 (by decide), a13, n2, hm]
  have h := z_rans l (n := 0) (z_ran0 (z_Ar M 13) (z_Ar M1 48)) (by omega)
  rw [Nat.zero_add] at h
  exact h
def z_Q29 (I : zH → Prop) : Prop := ∀ (x1 : Int32) (x2 : Int32) (x3 : Int32) (M : zH), I M → z_ev 2046 159 0 (z_ent [.ref 4, .int x1, .int x2, .int x3] (z_ml 159)) [] M fun v M1 => (∃ y, v = some (.int y)) ∧ z_ev 2046 276 0 (z_ent [.ref 19, .int x1, .int x2, .int x3] (z_ml 276)) [] M1 fun v2 M2 => (∃ y, v2 = some (.int y)) ∧ v = v2 ∧ I M2 ∧ M2.length ≤ M.length + 1171 ∧ z_szr M2 ≤ z_szr M + 14000
theorem zSA29 : z_Q29 z_JA := by
  intro x1 x2 x3 M ⟨T, hA, hR⟩
  have hW := hA.1.1
  have k4 : T[4]? = some (.inl (0, 0, 0, 0, 0)) := hW.k rfl (by decide)
  have k19 : T[19]? = some (.inl (12, 0, 0, 0, 0)) := hW.k rfl (by decide)
  have k36 := hW.k (k := 36) (κ := z_ai 36 20 0 7) rfl (by decide)
  have k37 := hW.k (k := 37) (κ := z_ai 37 20 0 9) rfl (by decide)
  have k38 := hW.k (k := 38) (κ := z_ai 38 20 0 8) rfl (by decide)
  obtain ⟨w, hw, w0, w1⟩ : ∃ w : Int32, z_F M 4 5 = some (.int w) ∧ 0 ≤ w.toInt ∧ w.toInt ≤ 20 := hW.fi k4 (by decide) rfl
  have hz := hA.2.2.2.symm.trans hw
  refine z_twoG (C := fun v v2 => v = v2) ?_
  rw [zzm159]
  show z_ev 2046 159 0 [some (.ref 4), some (.int x1), some (.int x2), some (.int x3), none] [] M _
  by_cases hr : 0 ≤ x1.toInt ∧ x1.toInt < w.toInt
  · obtain ⟨b, kd, h1, h2, h3, h4, h5, h6, h7, p, h8, h9⟩ := hR.2.1 w hw x1.toNatClampNeg (by unfold Int32.toNatClampNeg; omega)
    have ep : p = x1 := Int32.toInt_inj.mp (by unfold Int32.toNatClampNeg at h9; omega)
    rw [ep] at h8
    have hk : kd = 0 ∨ kd = 1 ∨ kd = 2 ∨ kd = 3 ∨ kd = 4 ∨ kd = 5 ∨ kd = 6 ∨ kd = 7 := by omega
    rcases hk with rfl | rfl | rfl | rfl | rfl | rfl | rfl | rfl
    · refine zNC159_0 (d := 2038) hW hw ⟨hr.1, hr.2, w1⟩ h1 h3 h6 h7 h8 hA.1 fun y M1 X1 c0 c1 c2 c3 c4 => ?_
      refine ⟨⟨y, rfl⟩, Or.inl ⟨X1.1.1.trans hW.1.symm, z_kep X1 (by decide)⟩, ?_⟩
      rw [zzm276]
      show z_ev 2046 276 0 [some (.ref 19), some (.int x1), some (.int x2), some (.int x3)] [] M1 _
      refine zNC276_0 (d := 2005) X1.1 ((X1.2.1 19 12 0 0 0 0 21 k19 (by decide)).trans hz) ⟨hr.1, hr.2, w1⟩ rfl (by rw [X1.2.a k36 (by decide)]; omega) (congrFun (X1.2.a k37 (by decide)) _) (congrFun (X1.2.a k38 (by decide)) _) fun z M2 X2 e0 e1 e2 e3 e4 => ?_
      by_cases q0 : x2.toInt = 0
      · obtain ⟨a1, a2⟩ := c0 q0
        obtain ⟨b1, b2, b3⟩ := e0 q0
        exact ⟨⟨z, rfl⟩, by rw [a1, b1], z_actK hA hR X1 X2 _ (by decide) a2 b2 b3 (by decide)⟩
      by_cases q1 : x2.toInt = 1
      · obtain ⟨a1, a2⟩ := c1 q1
        obtain ⟨b1, b2, b3⟩ := e1 q1
        exact ⟨⟨z, rfl⟩, by rw [a1, b1], z_actK hA hR X1 X2 _ (by decide) a2 b2 b3 (by decide)⟩
      by_cases q2 : x2.toInt = 2
      · obtain ⟨a1, a2⟩ := c2 q2
        obtain ⟨b1, b2, b3⟩ := e2 q2
        exact ⟨⟨z, rfl⟩, by rw [a1, b1], z_actK hA hR X1 X2 _ (by decide) a2 b2 b3 (by decide)⟩
      by_cases q3 : x2.toInt = 3
      · obtain ⟨a1, a2⟩ := c3 q3
        obtain ⟨b1, b2, b3⟩ := e3 q3
        exact ⟨⟨z, rfl⟩, by rw [a1, b1], z_actK hA hR X1 X2 _ (by decide) a2 b2 b3 (by decide)⟩
      have q4 : x2.toInt < 0 ∨ 3 < x2.toInt := by
        clear c0 c1 c2 c3 c4 e0 e1 e2 e3 e4
        omega
      obtain ⟨a1, a2⟩ := c4 q4
      obtain ⟨b1, b2, b3⟩ := e4 q4
      exact ⟨⟨z, rfl⟩, by rw [a1, b1], z_actK hA hR X1 X2 [] (by decide) a2 b2 b3 rfl⟩
    · refine zNC159_1 (d := 2038) hW hw ⟨hr.1, hr.2, w1⟩ h1 h3 h6 h7 h8 hA.1 fun y M1 X1 c0 c1 c2 c3 c4 => ?_
      refine ⟨⟨y, rfl⟩, Or.inl ⟨X1.1.1.trans hW.1.symm, z_kep X1 (by decide)⟩, ?_⟩
      rw [zzm276]
      show z_ev 2046 276 0 [some (.ref 19), some (.int x1), some (.int x2), some (.int x3)] [] M1 _
      refine zNC276_1 (d := 2005) X1.1 ((X1.2.1 19 12 0 0 0 0 21 k19 (by decide)).trans hz) ⟨hr.1, hr.2, w1⟩ rfl (by rw [X1.2.a k36 (by decide)]; omega) (congrFun (X1.2.a k37 (by decide)) _) (congrFun (X1.2.a k38 (by decide)) _) fun z M2 X2 e0 e1 e2 e3 e4 => ?_
      by_cases q0 : x2.toInt = 0
      · obtain ⟨a1, a2⟩ := c0 q0
        obtain ⟨b1, b2, b3⟩ := e0 q0
        exact ⟨⟨z, rfl⟩, by rw [a1, b1], z_actK hA hR X1 X2 _ (by decide) a2 b2 b3 (by decide)⟩
      by_cases q1 : x2.toInt = 1
      · obtain ⟨a1, a2⟩ := c1 q1
        obtain ⟨b1, b2, b3⟩ := e1 q1
        exact ⟨⟨z, rfl⟩, by rw [a1, b1], z_actK hA hR X1 X2 _ (by decide) a2 b2 b3 (by decide)⟩
      by_cases q2 : x2.toInt = 2
      · obtain ⟨a1, a2⟩ := c2 q2
        obtain ⟨b1, b2, b3⟩ := e2 q2
        exact ⟨⟨z, rfl⟩, by rw [a1, b1], z_actK hA hR X1 X2 _ (by decide) a2 b2 b3 (by decide)⟩
      by_cases q3 : x2.toInt = 3
      · obtain ⟨a1, a2⟩ := c3 q3
        obtain ⟨b1, b2, b3⟩ := e3 q3
        exact ⟨⟨z, rfl⟩, by rw [a1, b1], z_actK hA hR X1 X2 _ (by decide) a2 b2 b3 (by decide)⟩
      have q4 : x2.toInt < 0 ∨ 3 < x2.toInt := by
        clear c0 c1 c2 c3 c4 e0 e1 e2 e3 e4
        omega
      obtain ⟨a1, a2⟩ := c4 q4
      obtain ⟨b1, b2, b3⟩ := e4 q4
      exact ⟨⟨z, rfl⟩, by rw [a1, b1], z_actK hA hR X1 X2 [] (by decide) a2 b2 b3 rfl⟩
    · refine zNC159_2 (d := 2038) hW hw ⟨hr.1, hr.2, w1⟩ h1 h3 h6 h7 h8 hA.1 fun y M1 X1 c0 c1 c2 c3 c4 => ?_
      refine ⟨⟨y, rfl⟩, Or.inl ⟨X1.1.1.trans hW.1.symm, z_kep X1 (by decide)⟩, ?_⟩
      rw [zzm276]
      show z_ev 2046 276 0 [some (.ref 19), some (.int x1), some (.int x2), some (.int x3)] [] M1 _
      refine zNC276_2 (d := 2005) X1.1 ((X1.2.1 19 12 0 0 0 0 21 k19 (by decide)).trans hz) ⟨hr.1, hr.2, w1⟩ rfl (by rw [X1.2.a k36 (by decide)]; omega) (congrFun (X1.2.a k37 (by decide)) _) (congrFun (X1.2.a k38 (by decide)) _) fun z M2 X2 e0 e1 e2 e3 e4 => ?_
      by_cases q0 : x2.toInt = 0
      · obtain ⟨a1, a2⟩ := c0 q0
        obtain ⟨b1, b2, b3⟩ := e0 q0
        exact ⟨⟨z, rfl⟩, by rw [a1, b1], z_actK hA hR X1 X2 _ (by decide) a2 b2 b3 (by decide)⟩
      by_cases q1 : x2.toInt = 1
      · obtain ⟨a1, a2⟩ := c1 q1
        obtain ⟨b1, b2, b3⟩ := e1 q1
        exact ⟨⟨z, rfl⟩, by rw [a1, b1], z_actK hA hR X1 X2 _ (by decide) a2 b2 b3 (by decide)⟩
      by_cases q2 : x2.toInt = 2
      · obtain ⟨a1, a2⟩ := c2 q2
        obtain ⟨b1, b2, b3⟩ := e2 q2
        exact ⟨⟨z, rfl⟩, by rw [a1, b1], z_actK hA hR X1 X2 _ (by decide) a2 b2 b3 (by decide)⟩
      by_cases q3 : x2.toInt = 3
      · obtain ⟨a1, a2⟩ := c3 q3
        obtain ⟨b1, b2, b3⟩ := e3 q3
        exact ⟨⟨z, rfl⟩, by rw [a1, b1], z_actK hA hR X1 X2 _ (by decide) a2 b2 b3 (by decide)⟩
      have q4 : x2.toInt < 0 ∨ 3 < x2.toInt := by
        clear c0 c1 c2 c3 c4 e0 e1 e2 e3 e4
        omega
      obtain ⟨a1, a2⟩ := c4 q4
      obtain ⟨b1, b2, b3⟩ := e4 q4
      exact ⟨⟨z, rfl⟩, by rw [a1, b1], z_actK hA hR X1 X2 [] (by decide) a2 b2 b3 rfl⟩
    · refine zNC159_3 (d := 2038) hW hw ⟨hr.1, hr.2, w1⟩ h1 h3 h6 h7 h8 hA.1 fun y M1 X1 c0 c1 c2 c3 c4 => ?_
      refine ⟨⟨y, rfl⟩, Or.inl ⟨X1.1.1.trans hW.1.symm, z_kep X1 (by decide)⟩, ?_⟩
      rw [zzm276]
      show z_ev 2046 276 0 [some (.ref 19), some (.int x1), some (.int x2), some (.int x3)] [] M1 _
      refine zNC276_3 (d := 2005) X1.1 ((X1.2.1 19 12 0 0 0 0 21 k19 (by decide)).trans hz) ⟨hr.1, hr.2, w1⟩ rfl (by rw [X1.2.a k36 (by decide)]; omega) (congrFun (X1.2.a k37 (by decide)) _) (congrFun (X1.2.a k38 (by decide)) _) fun z M2 X2 e0 e1 e2 e3 e4 => ?_
      by_cases q0 : x2.toInt = 0
      · obtain ⟨a1, a2⟩ := c0 q0
        obtain ⟨b1, b2, b3⟩ := e0 q0
        exact ⟨⟨z, rfl⟩, by rw [a1, b1], z_actK hA hR X1 X2 _ (by decide) a2 b2 b3 (by decide)⟩
      by_cases q1 : x2.toInt = 1
      · obtain ⟨a1, a2⟩ := c1 q1
        obtain ⟨b1, b2, b3⟩ := e1 q1
        exact ⟨⟨z, rfl⟩, by rw [a1, b1], z_actK hA hR X1 X2 _ (by decide) a2 b2 b3 (by decide)⟩
      by_cases q2 : x2.toInt = 2
      · obtain ⟨a1, a2⟩ := c2 q2
        obtain ⟨b1, b2, b3⟩ := e2 q2
        exact ⟨⟨z, rfl⟩, by rw [a1, b1], z_actK hA hR X1 X2 _ (by decide) a2 b2 b3 (by decide)⟩
      by_cases q3 : x2.toInt = 3
      · obtain ⟨a1, a2⟩ := c3 q3
        obtain ⟨b1, b2, b3⟩ := e3 q3
        exact ⟨⟨z, rfl⟩, by rw [a1, b1], z_actK hA hR X1 X2 _ (by decide) a2 b2 b3 (by decide)⟩
      have q4 : x2.toInt < 0 ∨ 3 < x2.toInt := by
        clear c0 c1 c2 c3 c4 e0 e1 e2 e3 e4
        omega
      obtain ⟨a1, a2⟩ := c4 q4
      obtain ⟨b1, b2, b3⟩ := e4 q4
      exact ⟨⟨z, rfl⟩, by rw [a1, b1], z_actK hA hR X1 X2 [] (by decide) a2 b2 b3 rfl⟩
    · refine zNC159_4 (d := 2038) hW hw ⟨hr.1, hr.2, w1⟩ h1 h3 h6 h7 h8 hA.1 fun y M1 X1 c0 c1 c2 c3 c4 => ?_
      refine ⟨⟨y, rfl⟩, Or.inl ⟨X1.1.1.trans hW.1.symm, z_kep X1 (by decide)⟩, ?_⟩
      rw [zzm276]
      show z_ev 2046 276 0 [some (.ref 19), some (.int x1), some (.int x2), some (.int x3)] [] M1 _
      refine zNC276_4 (d := 2005) X1.1 ((X1.2.1 19 12 0 0 0 0 21 k19 (by decide)).trans hz) ⟨hr.1, hr.2, w1⟩ rfl (by rw [X1.2.a k36 (by decide)]; omega) (congrFun (X1.2.a k37 (by decide)) _) (congrFun (X1.2.a k38 (by decide)) _) fun z M2 X2 e0 e1 e2 e3 e4 => ?_
      by_cases q0 : x2.toInt = 0
      · obtain ⟨a1, a2⟩ := c0 q0
        obtain ⟨b1, b2, b3⟩ := e0 q0
        exact ⟨⟨z, rfl⟩, by rw [a1, b1], z_actK hA hR X1 X2 _ (by decide) a2 b2 b3 (by decide)⟩
      by_cases q1 : x2.toInt = 1
      · obtain ⟨a1, a2⟩ := c1 q1
        obtain ⟨b1, b2, b3⟩ := e1 q1
        exact ⟨⟨z, rfl⟩, by rw [a1, b1], z_actK hA hR X1 X2 _ (by decide) a2 b2 b3 (by decide)⟩
      by_cases q2 : x2.toInt = 2
      · obtain ⟨a1, a2⟩ := c2 q2
        obtain ⟨b1, b2, b3⟩ := e2 q2
        exact ⟨⟨z, rfl⟩, by rw [a1, b1], z_actK hA hR X1 X2 _ (by decide) a2 b2 b3 (by decide)⟩
      by_cases q3 : x2.toInt = 3
      · obtain ⟨a1, a2⟩ := c3 q3
        obtain ⟨b1, b2, b3⟩ := e3 q3
        exact ⟨⟨z, rfl⟩, by rw [a1, b1], z_actK hA hR X1 X2 _ (by decide) a2 b2 b3 (by decide)⟩
      have q4 : x2.toInt < 0 ∨ 3 < x2.toInt := by
        clear c0 c1 c2 c3 c4 e0 e1 e2 e3 e4
        omega
      obtain ⟨a1, a2⟩ := c4 q4
      obtain ⟨b1, b2, b3⟩ := e4 q4
      exact ⟨⟨z, rfl⟩, by rw [a1, b1], z_actK hA hR X1 X2 [] (by decide) a2 b2 b3 rfl⟩
    · refine zNC159_5 (d := 2038) hW hw ⟨hr.1, hr.2, w1⟩ h1 h3 h6 h7 h8 hA.1 fun y M1 X1 c0 c1 c2 c3 c4 => ?_
      refine ⟨⟨y, rfl⟩, Or.inl ⟨X1.1.1.trans hW.1.symm, z_kep X1 (by decide)⟩, ?_⟩
      rw [zzm276]
      show z_ev 2046 276 0 [some (.ref 19), some (.int x1), some (.int x2), some (.int x3)] [] M1 _
      refine zNC276_5 (d := 2005) X1.1 ((X1.2.1 19 12 0 0 0 0 21 k19 (by decide)).trans hz) ⟨hr.1, hr.2, w1⟩ rfl (by rw [X1.2.a k36 (by decide)]; omega) (congrFun (X1.2.a k37 (by decide)) _) (congrFun (X1.2.a k38 (by decide)) _) fun z M2 X2 e0 e1 e2 e3 e4 => ?_
      by_cases q0 : x2.toInt = 0
      · obtain ⟨a1, a2⟩ := c0 q0
        obtain ⟨b1, b2, b3⟩ := e0 q0
        exact ⟨⟨z, rfl⟩, by rw [a1, b1], z_actK hA hR X1 X2 _ (by decide) a2 b2 b3 (by decide)⟩
      by_cases q1 : x2.toInt = 1
      · obtain ⟨a1, a2⟩ := c1 q1
        obtain ⟨b1, b2, b3⟩ := e1 q1
        exact ⟨⟨z, rfl⟩, by rw [a1, b1], z_actK hA hR X1 X2 _ (by decide) a2 b2 b3 (by decide)⟩
      by_cases q2 : x2.toInt = 2
      · obtain ⟨a1, a2⟩ := c2 q2
        obtain ⟨b1, b2, b3⟩ := e2 q2
        exact ⟨⟨z, rfl⟩, by rw [a1, b1], z_actK hA hR X1 X2 _ (by decide) a2 b2 b3 (by decide)⟩
      by_cases q3 : x2.toInt = 3
      · obtain ⟨a1, a2⟩ := c3 q3
        obtain ⟨b1, b2, b3⟩ := e3 q3
        exact ⟨⟨z, rfl⟩, by rw [a1, b1], z_actK hA hR X1 X2 _ (by decide) a2 b2 b3 (by decide)⟩
      have q4 : x2.toInt < 0 ∨ 3 < x2.toInt := by
        clear c0 c1 c2 c3 c4 e0 e1 e2 e3 e4
        omega
      obtain ⟨a1, a2⟩ := c4 q4
      obtain ⟨b1, b2, b3⟩ := e4 q4
      exact ⟨⟨z, rfl⟩, by rw [a1, b1], z_actK hA hR X1 X2 [] (by decide) a2 b2 b3 rfl⟩
    · refine zNC159_6 (d := 2038) hW hw ⟨hr.1, hr.2, w1⟩ h1 h3 h6 h7 h8 hA.1 fun y M1 X1 c0 c1 c2 c3 c4 => ?_
      refine ⟨⟨y, rfl⟩, Or.inl ⟨X1.1.1.trans hW.1.symm, z_kep X1 (by decide)⟩, ?_⟩
      rw [zzm276]
      show z_ev 2046 276 0 [some (.ref 19), some (.int x1), some (.int x2), some (.int x3)] [] M1 _
      refine zNC276_6 (d := 2005) X1.1 ((X1.2.1 19 12 0 0 0 0 21 k19 (by decide)).trans hz) ⟨hr.1, hr.2, w1⟩ rfl (by rw [X1.2.a k36 (by decide)]; omega) (congrFun (X1.2.a k37 (by decide)) _) (congrFun (X1.2.a k38 (by decide)) _) fun z M2 X2 e0 e1 e2 e3 e4 => ?_
      by_cases q0 : x2.toInt = 0
      · obtain ⟨a1, a2⟩ := c0 q0
        obtain ⟨b1, b2, b3⟩ := e0 q0
        exact ⟨⟨z, rfl⟩, by rw [a1, b1], z_actK hA hR X1 X2 _ (by decide) a2 b2 b3 (by decide)⟩
      by_cases q1 : x2.toInt = 1
      · obtain ⟨a1, a2⟩ := c1 q1
        obtain ⟨b1, b2, b3⟩ := e1 q1
        exact ⟨⟨z, rfl⟩, by rw [a1, b1], z_actK hA hR X1 X2 _ (by decide) a2 b2 b3 (by decide)⟩
      by_cases q2 : x2.toInt = 2
      · obtain ⟨a1, a2⟩ := c2 q2
        obtain ⟨b1, b2, b3⟩ := e2 q2
        exact ⟨⟨z, rfl⟩, by rw [a1, b1], z_actK hA hR X1 X2 _ (by decide) a2 b2 b3 (by decide)⟩
      by_cases q3 : x2.toInt = 3
      · obtain ⟨a1, a2⟩ := c3 q3
        obtain ⟨b1, b2, b3⟩ := e3 q3
        exact ⟨⟨z, rfl⟩, by rw [a1, b1], z_actK hA hR X1 X2 _ (by decide) a2 b2 b3 (by decide)⟩
      have q4 : x2.toInt < 0 ∨ 3 < x2.toInt := by
        clear c0 c1 c2 c3 c4 e0 e1 e2 e3 e4
        omega
      obtain ⟨a1, a2⟩ := c4 q4
      obtain ⟨b1, b2, b3⟩ := e4 q4
      exact ⟨⟨z, rfl⟩, by rw [a1, b1], z_actK hA hR X1 X2 [] (by decide) a2 b2 b3 rfl⟩
    · refine zNC159_7 (d := 2038) hW hw ⟨hr.1, hr.2, w1⟩ h1 h3 h6 h7 h8 hA.1 fun y M1 X1 c0 c1 c2 c3 c4 => ?_
      refine ⟨⟨y, rfl⟩, Or.inl ⟨X1.1.1.trans hW.1.symm, z_kep X1 (by decide)⟩, ?_⟩
      rw [zzm276]
      show z_ev 2046 276 0 [some (.ref 19), some (.int x1), some (.int x2), some (.int x3)] [] M1 _
      refine zNC276_7 (d := 2005) X1.1 ((X1.2.1 19 12 0 0 0 0 21 k19 (by decide)).trans hz) ⟨hr.1, hr.2, w1⟩ rfl (by rw [X1.2.a k36 (by decide)]; omega) (congrFun (X1.2.a k37 (by decide)) _) (congrFun (X1.2.a k38 (by decide)) _) fun z M2 X2 e0 e1 e2 e3 e4 => ?_
      by_cases q0 : x2.toInt = 0
      · obtain ⟨a1, a2⟩ := c0 q0
        obtain ⟨b1, b2, b3⟩ := e0 q0
        exact ⟨⟨z, rfl⟩, by rw [a1, b1], z_actK hA hR X1 X2 _ (by decide) a2 b2 b3 (by decide)⟩
      by_cases q1 : x2.toInt = 1
      · obtain ⟨a1, a2⟩ := c1 q1
        obtain ⟨b1, b2, b3⟩ := e1 q1
        exact ⟨⟨z, rfl⟩, by rw [a1, b1], z_actK hA hR X1 X2 _ (by decide) a2 b2 b3 (by decide)⟩
      by_cases q2 : x2.toInt = 2
      · obtain ⟨a1, a2⟩ := c2 q2
        obtain ⟨b1, b2, b3⟩ := e2 q2
        exact ⟨⟨z, rfl⟩, by rw [a1, b1], z_actK hA hR X1 X2 _ (by decide) a2 b2 b3 (by decide)⟩
      by_cases q3 : x2.toInt = 3
      · obtain ⟨a1, a2⟩ := c3 q3
        obtain ⟨b1, b2, b3⟩ := e3 q3
        exact ⟨⟨z, rfl⟩, by rw [a1, b1], z_actK hA hR X1 X2 _ (by decide) a2 b2 b3 (by decide)⟩
      have q4 : x2.toInt < 0 ∨ 3 < x2.toInt := by
        clear c0 c1 c2 c3 c4 e0 e1 e2 e3 e4
        omega
      obtain ⟨a1, a2⟩ := c4 q4
      obtain ⟨b1, b2, b3⟩ := e4 q4
      exact ⟨⟨z, rfl⟩, by rw [a1, b1], z_actK hA hR X1 X2 [] (by decide) a2 b2 b3 rfl⟩
  · refine zNC159_b (d := 2038) hW hw ⟨by omega, w0, w1⟩ hA.1 fun y M1 X1 _ _ c0 => ?_
    refine ⟨⟨y, rfl⟩, Or.inl ⟨X1.1.1.trans hW.1.symm, z_kep X1 (by decide)⟩, ?_⟩
    rw [zzm276]
    show z_ev 2046 276 0 [some (.ref 19), some (.int x1), some (.int x2), some (.int x3)] [] M1 _
    refine zNC276_b (d := 2005) X1.1 ((X1.2.1 19 12 0 0 0 0 21 k19 (by decide)).trans hz) ⟨by omega, w0, w1⟩ fun z M2 X2 _ _ e0 => ?_
    obtain ⟨a1, a2⟩ := c0
    obtain ⟨b1, b2, b3⟩ := e0
    exact ⟨⟨z, rfl⟩, by rw [a1, b1], z_actK hA hR X1 X2 [] (by decide) a2 b2 b3 rfl⟩
theorem zNC174 {T : List zK} {d : Nat} {K : Option Value → zH → Prop} {p1 : Int32} {M0 : zH} (hW : z_W M0 T)  (kk : ∀ (x : Int32) (M1 : zH), z_X T zw174 M0 M1 → ((x.toInt = -1 ∧ (p1.toInt < 0 ∨ (z_Ar M0 13 0).toInt ≤ p1.toInt ∨ 24 ≤ p1.toInt)) ∨ (0 ≤ p1.toInt ∧ p1.toInt < (z_Ar M0 13 0).toInt ∧ p1.toInt < 24 ∧ x = z_Ar M0 13 (p1.toNatClampNeg + 1))) → K (some (.int x)) M1) : z_ev d 174 0 [some (.ref 4), some (.int p1)] [] M0 K := by
  have X : z_X T zw174 M0 M0 := .refl hW
  refine z_xP zt174 0 1 [some (.ref 4), some (.int p1)] [.int p1] rfl rfl ?_
  refine z_xZ zt174 1 rfl rfl (fun (h1 : p1.toInt < 0) => ?_) (fun (h1 : 0 ≤ p1.toInt) => ?_)
  · skip
    refine z_xP zt174 9 21 [some (.ref 4), some (.int p1)] [.int (-1)] rfl rfl ?_
    have qm1 : (((-1) : Int32)).toInt = (-1) := rfl
    have qm1 : (((-1) : Int32)).toInt = (-1) := rfl
    exact z_xri zt174 10 rfl zzr174 (kk (-1) M0 X (Or.inl ⟨by omega, by omega⟩))
  refine z_xP zt174 2 6 [some (.ref 4), some (.int p1)] [.ref 4, .int p1] rfl rfl ?_
  have f4 : T[4]? = some (.inl (0, 0, 0, 0, 0)) := X.1.k rfl (by decide)
  refine z_xgX (b := 13) zt174 3 rfl zo174 zzf0_31 X f4 (by decide) (by decide) rfl ?_
  refine z_xP zt174 4 10 [some (.ref 4), some (.int p1)] [.int 0, .ref 13, .int p1] rfl rfl ?_
  have f13 : T[13]? = some (.inr (13, 0, 25, (-2147483648), 2147483647)) := X.1.k rfl (by decide)
  refine z_xil zt174 5 rfl X f13 (by decide) (by decide) (by decide) (fun (x2 : Int32) h3 (h4 : (-2147483648) ≤ x2.toInt) (h5 : x2.toInt ≤ 2147483647) => ?_)
  have q0 : ((0 : Int32)).toInt = 0 := rfl
  have h6 := z_r0 h3 (by omega)
  have h7 := z_b32 p1
  have h8 := z_b32 x2
  refine z_xJ zt174 6 rfl rfl (fun (h9 : x2.toInt ≤ p1.toInt) => ?_) (fun (h9 : p1.toInt < x2.toInt) => ?_)
  · skip
    refine z_xP zt174 9 21 [some (.ref 4), some (.int p1)] [.int (-1)] rfl rfl ?_
    have qm1 : (((-1) : Int32)).toInt = (-1) := rfl
    have qm1 : (((-1) : Int32)).toInt = (-1) := rfl
    exact z_xri zt174 10 rfl zzr174 (kk (-1) M0 X (Or.inl ⟨by omega, by omega⟩))
  refine z_xP zt174 7 17 [some (.ref 4), some (.int p1)] [.int 24, .int p1] rfl rfl ?_
  refine z_xJ zt174 8 rfl rfl (fun (h10 : p1.toInt < 24) => ?_) (fun (h10 : 24 ≤ p1.toInt) => ?_)
  · skip
    refine z_xP zt174 11 23 [some (.ref 4), some (.int p1)] [.ref 4] rfl rfl ?_
    refine z_xgX (b := 13) zt174 12 rfl zo174 zzf0_31 X f4 (by decide) (by decide) rfl ?_
    refine z_xP zt174 13 28 [some (.ref 4), some (.int p1)] [.int 1, .int p1, .ref 13] rfl rfl ?_
    refine z_xI zt174 14 rfl rfl (fun (x11 : Int32) (h12 : x11.toInt = p1.toInt + 1) => ?_) (z_pAdd rfl rfl (by omega) (by omega))
    refine z_xil zt174 15 rfl X f13 (by decide) (by omega) (by omega) (fun (x13 : Int32) h14 (h15 : (-2147483648) ≤ x13.toInt) (h16 : x13.toInt ≤ 2147483647) => ?_)
    have h17 := z_r0 h14 (by omega)
    exact z_xri zt174 16 rfl zzr174 (kk x13 M0 X (Or.inr ⟨by omega, by omega, by omega, h14.symm.trans (congrArg (z_Ar M0 13) (by unfold Int32.toNatClampNeg; omega))⟩))
  refine z_xP zt174 9 21 [some (.ref 4), some (.int p1)] [.int (-1)] rfl rfl ?_
  have qm1 : (((-1) : Int32)).toInt = (-1) := rfl
  have qm1 : (((-1) : Int32)).toInt = (-1) := rfl
  exact z_xri zt174 10 rfl zzr174 (kk (-1) M0 X (Or.inl ⟨by omega, by omega⟩))
theorem zNC283 {T : List zK} {d : Nat} {K : Option Value → zH → Prop} {p1 : Int32} {zp0 : Int32} {M0 : zH} (hW : z_W M0 T) (hz0 : z_F M0 19 47 = some (.int zp0)) (kk : ∀ (x : Int32) (M1 : zH), z_X T zw283 M0 M1 → ((x.toInt = -1 ∧ (p1.toInt < 0 ∨ zp0.toInt ≤ p1.toInt ∨ 24 ≤ p1.toInt)) ∨ (0 ≤ p1.toInt ∧ p1.toInt < zp0.toInt ∧ p1.toInt < 24 ∧ x = z_Ar M0 48 p1.toNatClampNeg)) → ∀ (w0 : Int32), z_F M1 19 47 = some (.int w0) → K (some (.int x)) M1) : z_ev d 283 0 [some (.ref 19), some (.int p1)] [] M0 K := by
  have X : z_X T zw283 M0 M0 := .refl hW
  refine z_xP zt283 0 1 [some (.ref 19), some (.int p1)] [.int p1] rfl rfl ?_
  refine z_xZ zt283 1 rfl rfl (fun (h1 : p1.toInt < 0) => ?_) (fun (h1 : 0 ≤ p1.toInt) => ?_)
  · skip
    refine z_xP zt283 12 28 [some (.ref 19), some (.int p1)] [.int (-1)] rfl rfl ?_
    have qm1 : (((-1) : Int32)).toInt = (-1) := rfl
    have f19 : T[19]? = some (.inl (12, 0, 0, 0, 0)) := X.1.k rfl (by decide)
    have qm1 : (((-1) : Int32)).toInt = (-1) := rfl
    exact z_xri zt283 13 rfl zzr283 (kk (-1) M0 X (Or.inl ⟨by omega, by omega⟩) zp0 hz0)
  refine z_xP zt283 2 6 [some (.ref 19), some (.int p1)] [.ref 19, .int p1] rfl rfl ?_
  have f19 : T[19]? = some (.inl (12, 0, 0, 0, 0)) := X.1.k rfl (by decide)
  refine z_xgv zt283 3 rfl zo283 zzf12_381 X f19 (by decide) hz0 ?_
  have h2 := z_b32 p1
  have h3 := z_b32 zp0
  refine z_xJ zt283 4 rfl rfl (fun (h4 : zp0.toInt ≤ p1.toInt) => ?_) (fun (h4 : p1.toInt < zp0.toInt) => ?_)
  · skip
    refine z_xP zt283 12 28 [some (.ref 19), some (.int p1)] [.int (-1)] rfl rfl ?_
    have qm1 : (((-1) : Int32)).toInt = (-1) := rfl
    have qm1 : (((-1) : Int32)).toInt = (-1) := rfl
    exact z_xri zt283 13 rfl zzr283 (kk (-1) M0 X (Or.inl ⟨by omega, by omega⟩) zp0 hz0)
  refine z_xP zt283 5 15 [some (.ref 19), some (.int p1)] [.int 24, .int p1] rfl rfl ?_
  refine z_xJ zt283 6 rfl rfl (fun (h5 : 24 ≤ p1.toInt) => ?_) (fun (h5 : p1.toInt < 24) => ?_)
  · skip
    refine z_xP zt283 12 28 [some (.ref 19), some (.int p1)] [.int (-1)] rfl rfl ?_
    have qm1 : (((-1) : Int32)).toInt = (-1) := rfl
    have qm1 : (((-1) : Int32)).toInt = (-1) := rfl
    exact z_xri zt283 13 rfl zzr283 (kk (-1) M0 X (Or.inl ⟨by omega, by omega⟩) zp0 hz0)
  refine z_xP zt283 7 19 [some (.ref 19), some (.int p1)] [.ref 19] rfl rfl ?_
  refine z_xgX (b := 48) zt283 8 rfl zo283 zzf12_94 X f19 (by decide) (by decide) rfl ?_
  refine z_xP zt283 9 23 [some (.ref 19), some (.int p1)] [.int p1, .ref 48] rfl rfl ?_
  have f48 : T[48]? = some (.inr (48, 0, 24, (-2147483648), 2147483647)) := X.1.k rfl (by decide)
  refine z_xil zt283 10 rfl X f48 (by decide) (by omega) (by omega) (fun (x6 : Int32) h7 (h8 : (-2147483648) ≤ x6.toInt) (h9 : x6.toInt ≤ 2147483647) => ?_)
  refine z_xP zt283 11 28 [some (.ref 19), some (.int p1)] [.int x6] rfl rfl ?_
  exact z_xri zt283 13 rfl zzr283 (kk x6 M0 X (Or.inr ⟨by omega, by omega, by omega, h7.symm⟩) zp0 hz0)
def z_Q30 (I : zH → Prop) : Prop := ∀ (x1 : Int32) (M : zH), I M → z_ev 2046 174 0 (z_ent [.ref 4, .int x1] (z_ml 174)) [] M fun v M1 => (∃ y, v = some (.int y)) ∧ z_ev 2046 283 0 (z_ent [.ref 19, .int x1] (z_ml 283)) [] M1 fun v2 M2 => (∃ y, v2 = some (.int y)) ∧ v = v2 ∧ I M2 ∧ M2.length ≤ M.length + 1171 ∧ z_szr M2 ≤ z_szr M + 14000
theorem zSA30 : z_Q30 z_JA := by
  intro x1 M ⟨T, hA, hR⟩
  have hW := hA.1.1
  have k48 := hW.k (k := 48) (κ := z_ai 48 24 (-2147483648) 2147483647) rfl (by decide)
  have k19 : T[19]? = some (.inl (12, 0, 0, 0, 0)) := hW.k rfl (by decide)
  obtain ⟨n, n1, n2, n3, n4⟩ := hR.1.2
  refine z_JA.two (r1 := zw174) (r2 := zw283) (C := fun v v2 => v = v2) hA hR rfl rfl ?_
  rw [zzm174]
  show z_ev 2046 174 0 [some (.ref 4), some (.int x1)] [] M _
  refine zNC174 (d := 2046) hW fun y M1 X1 r1 => ?_
  refine ⟨⟨y, rfl⟩, X1, ?_⟩
  rw [zzm283]
  show z_ev 2046 283 0 [some (.ref 19), some (.int x1)] [] M1 _
  refine zNC283 (d := 2046) X1.1 ((X1.2.1 19 12 0 0 0 0 47 k19 (by decide)).trans n1) fun z M2 X2 r2 u hu => ?_
  rw [X1.2.a k48 (by decide)] at r2
  have e : y = z := by
    rcases r1 with ⟨a1, a2⟩ | ⟨a1, a2, a3, a4⟩
    · rcases r2 with ⟨b1, b2⟩ | ⟨b1, b2, b3, b4⟩
      · exact Int32.toInt_inj.mp (by omega)
      · exfalso; omega
    · rcases r2 with ⟨b1, b2⟩ | ⟨b1, b2, b3, b4⟩
      · exfalso; omega
      · rw [a4, b4]
        exact n4 _ (by unfold Int32.toNatClampNeg; omega) (by unfold Int32.toNatClampNeg; omega)
  exact ⟨⟨z, rfl⟩, by rw [e], X2⟩
