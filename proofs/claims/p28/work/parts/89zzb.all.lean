/-! over all benches, both sides -/
/-- the reference's agenda, as the class's -/
theorem z_ag.y {T : List zK} {M M1 : zH} {p : Int32} {b b2 N sa q t m pr en : Nat} {B : Nat → Nat} {S : Nat → Int32} {A : Int32} {rs : List Nat} (h : z_ag T M p b b2 N sa q t m pr en B S A) (hW : z_W M T) (ke : z_ke T rs M M1) (hr : (z_agr.all fun x => !rs.elem x) = true) : y_tnb M1 p.toNatClampNeg q t m pr en B S A := by
  obtain ⟨hAB, _, ⟨hsa, ksa, hSS⟩, hA, hm, _⟩ := h
  have g := hW.p3 hAB.2.1
  have hY := hAB.2.2.2.2.ke hW ke hr
  refine ⟨⟨by omega, by omega⟩, hY, ⟨hm.2, hm.1⟩, fun k hk => ?_, hA⟩
  obtain ⟨_, _, _, _, _, _, ⟨sa2, f5, _, hLS⟩, _⟩ := hAB.2.2.2.1
  obtain rfl : sa = sa2 := z_rfe hsa f5
  obtain ⟨s, s1, s2, s3⟩ := z_lc_ex (B := B) (2 ^ q) k (by omega)
  have e1 : (z_Ar M1 30 (1024 * p.toNatClampNeg + z_lc B s)).toInt = (s : Int) := hY.2.2.2.2.2.2 s s1 s2
  have e2 := hLS s s1 s2
  rw [s3] at e1 e2
  rw [← hSS k hk]
  exact Int32.toInt_inj.mp (e1.trans e2.symm)
