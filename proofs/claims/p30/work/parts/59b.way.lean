/-! way -/
theorem zJ16 : z_P16 z_J := by
  intro x1 x2 x3 M ⟨T, hA, hR, h9⟩
  have hW := hA.1.1
  have k4 : T[4]? = some (.inl (0, 0, 0, 0, 0)) := hW.k rfl (by decide)
  have k19 : T[19]? = some (.inl (12, 0, 0, 0, 0)) := hW.k rfl (by decide)
  obtain ⟨w, hw, w0, w1⟩ : ∃ w : Int32, z_F M 4 5 = some (.int w) ∧ 0 ≤ w.toInt ∧ w.toInt ≤ 20 := hW.fi k4 (by decide) rfl
  have hz := hA.2.2.2.symm.trans hw
  refine z_twoG (C := fun _ _ => True) ?_
  rw [zzm73]
  show z_ev 2046 73 0 [some (.ref 4), some (.int x1), some (.int x2), some (.int x3), none, none] [] M _
  refine zC73 hW hw ⟨w0, w1⟩ (fun s4 s5 h1 h2 h3 => ?_) (fun y M1 X1 _ _ u hu _ r1 r2 r3 => ?_)
  · refine zRT73 (p1 := x1) (p2 := x2) (p3 := x3) hA hw w0 h1.2.2 ⟨h1.1, h1.2.1⟩ h2 h3 (fun y u s c T1 M3 hs hc hy hu hu1 h19 hB p1 ke o12 tN f0 f1 f2 f3 l1 l2 l3 => ?_)
    refine ⟨⟨y, rfl⟩, Or.inr ⟨by omega, by unfold z_szr; omega⟩, ?_⟩
    rw [zzm235]
    show z_ev 2046 235 0 [some (.ref 19), some (.int x1), some (.int x2), some (.int x3)] [] M3 _
    have hW3 := hB.1.1
    have q4 := p1 _ _ k4
    refine zRC235 hW3 (h19.trans hz) ⟨w0, w1⟩ (fun x M2 X2 _ _ a36 b36 a37 b37 a38 b38 u2 hu2 _ t1 t2 t3 => ?_)
    have e1 : x.toInt = y.toInt := by
      clear a36 a37 a38
      omega
    have e2 : u2.toInt = u.toInt := by
      clear a36 a37 a38
      omega
    have e3 : z_F M2 4 5 = z_F M2 19 21 := by rw [X2.2.1 4 0 0 0 0 0 5 q4 (by decide), hu, hu2, Int32.toInt_inj.mp e2]
    exact ⟨⟨x, rfl⟩, trivial, ⟨T1, ⟨hB.1.go X2 (by decide), hB.2.1.go X2 (by decide), hB.2.2.go X2 (by decide), e3⟩, (hR.ke hW p1 (z_hn1 hW hB.1.1 p1 l1 tN (by omega)) ke rfl).go hW3 X2 rfl, (h9.ke hR.2.2.1 hW (z_hn1 hW hB.1.1 p1 l1 tN (by omega)) ke rfl).go (hR.ke hW p1 (z_hn1 hW hB.1.1 p1 l1 tN (by omega)) ke rfl).2.2.1 hW3 X2 rfl⟩, X2.1.1.trans hW3.1.symm, z_kep X2 (by decide)⟩
  · refine ⟨⟨y, rfl⟩, Or.inl ⟨X1.1.1.trans hW.1.symm, z_kep X1 (by decide)⟩, ?_⟩
    rw [zzm235]
    show z_ev 2046 235 0 [some (.ref 19), some (.int x1), some (.int x2), some (.int x3)] [] M1 _
    refine zRC235 X1.1 ((X1.2.1 19 12 0 0 0 0 21 k19 (by decide)).trans hz) ⟨w0, w1⟩ (fun x M2 X2 _ _ a36 b36 a37 b37 a38 b38 u2 hu2 _ t1 t2 t3 => ?_)
    have e1 : x.toInt = y.toInt := by
      clear a36 a37 a38
      omega
    have e2 : u2.toInt = u.toInt := by
      clear a36 a37 a38
      omega
    have e3 : z_F M2 4 5 = z_F M2 19 21 := by rw [X2.2.1 4 0 0 0 0 0 5 k4 (by decide), hu, hu2, Int32.toInt_inj.mp e2]
    exact ⟨⟨x, rfl⟩, trivial, ⟨T, ⟨(hA.1.go X1 (by decide)).go X2 (by decide), (hA.2.1.go X1 (by decide)).go X2 (by decide), (hA.2.2.1.go X1 (by decide)).go X2 (by decide), e3⟩, (hR.go hW X1 rfl).go X1.1 X2 rfl, (h9.go hR.2.2.1 hW X1 rfl).go (hR.go hW X1 rfl).2.2.1 X1.1 X2 rfl⟩, X2.1.1.trans X1.1.1.symm, z_kep X2 (by decide)⟩
