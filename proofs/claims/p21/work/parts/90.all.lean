/-! every script -/
def z_JC (M : zH) : Prop := z_J M ∧ z_chO M
theorem z_freshJC : z_freshOk z_JC := fun L xs M h1 h2 h3 => ⟨z_freshJ L xs M h1 h2 h3, (h3 1 (by decide)).trans rfl⟩
theorem z_joC {d j k : Nat} {l1 l2 : zL} {M : zH} {A B : Option Value → Prop} {C : Option Value → Option Value → Prop}
    (hc : z_chO M) (h1 : z_ev d j 0 l1 [] M fun v M1 => A v ∧ z_ev d k 0 l2 [] M1 fun v2 M2 => B v2 ∧ C v v2 ∧ z_J M2 ∧ M2.length ≤ M.length + 1171 ∧ z_szr M2 ≤ z_szr M + 14000) :
    z_ev d j 0 l1 [] M fun v M1 => A v ∧ z_ev d k 0 l2 [] M1 fun v2 M2 => B v2 ∧ C v v2 ∧ z_JC M2 ∧ M2.length ≤ M.length + 1171 ∧ z_szr M2 ≤ z_szr M + 14000 :=
  h1.grow.mono fun _ _ ⟨⟨a, b⟩, g, _⟩ => ⟨a, b.grow.mono fun _ _ ⟨⟨c1, c2, c3, c4, c5⟩, g2, _⟩ => ⟨c1, c2, ⟨c3, (g.trans g2).ro (by decide) hc⟩, c4, c5⟩⟩
theorem zJC0 : z_P0 z_JC := fun x1 x2 M h => z_joC h.2 ((zS0 x1 x2 M h.1).mono fun v M1 ⟨a, b⟩ => ⟨a, b.mono fun v2 M2 ⟨c, _, e⟩ => ⟨c, trivial, e⟩⟩)
theorem zJC1 : z_P1 z_JC := fun  M h => z_joC h.2 (zJ1  M h.1)
theorem zJC2 : z_P2 z_JC := fun x1 x2 M h => z_joC h.2 (zJ2 x1 x2 M h.1)
theorem zJC3 : z_P3 z_JC := fun x1 x2 M h => z_joC h.2 (zJ3 x1 x2 M h.1)
theorem zJC4 : z_P4 z_JC := fun x1 x2 M h => z_joC h.2 (zJ4 x1 x2 M h.1)
theorem zJC5 : z_P5 z_JC := fun x1 x2 x3 M h => z_joC h.2 (zJ5 x1 x2 x3 M h.1)
theorem zJC6 : z_P6 z_JC := fun x1 x2 x3 x4 M h => z_joC h.2 (zJ6 x1 x2 x3 x4 M h.1)
theorem zJC7 : z_P7 z_JC := fun x1 x2 x3 M h => z_joC h.2 (zJ7 x1 x2 x3 M h.1)
theorem zJC8 : z_P8 z_JC := fun x1 x2 x3 x4 M h => z_joC h.2 (zJ8 x1 x2 x3 x4 M h.1)
theorem zJC9 : z_P9 z_JC := fun x1 x2 x3 x4 M h => z_joC h.2 (zJ9 x1 x2 x3 x4 M h.1)
theorem zJC10 : z_P10 z_JC := fun x1 x2 x3 x4 M h => z_joC h.2 (zJ10 x1 x2 x3 x4 M h.1)
theorem zJC11 : z_P11 z_JC := fun x1 M h => z_joC h.2 (zJ11 x1 M h.1)
theorem zJC12 : z_P12 z_JC := fun x1 x2 x3 M h => z_joC h.2 (zJ12 x1 x2 x3 M h.1)
theorem zJC13 : z_P13 z_JC := fun x1 x2 x3 M h => z_joC h.2 (zJ13 x1 x2 x3 M h.1)
theorem zJC14 : z_P14 z_JC := fun x1 x2 M h => z_joC h.2 (zJ14 x1 x2 M h.1)
theorem zJC15 : z_P15 z_JC := fun x1 x2 M h => z_joC h.2 (zJ15 x1 x2 M h.1)
theorem zJC16 : z_P16 z_JC := fun x1 x2 x3 M h => z_joC h.2 (zJ16 x1 x2 x3 M h.1)
theorem zJC17 : z_P17 z_JC := fun x1 x2 M h => z_joC h.2 (zJ17 x1 x2 M h.1)
theorem zJC18 : z_P18 z_JC := fun x1 x2 x3 M h => z_joC h.2 (zJ18 x1 x2 x3 M h.1)
theorem zJC19 : z_P19 z_JC := fun x1 x2 M h => z_joC h.2 (zT19 h.1 h.2)
theorem zJC20 : z_P20 z_JC := fun x1 x2 x3 x4 M h => z_joC h.2 (zJ20 x1 x2 x3 x4 M h.1)
theorem zJC21 : z_P21 z_JC := fun x1 x2 x3 x4 x5 M h => z_joC h.2 (zJ21 x1 x2 x3 x4 x5 M h.1)
theorem zJC22 : z_P22 z_JC := fun x1 x2 x3 x4 M h => z_joC h.2 (zJ22 x1 x2 x3 x4 M h.1)
theorem zJC23 : z_P23 z_JC := fun x1 x2 x3 M h => z_joC h.2 (zJ23 x1 x2 x3 M h.1)
theorem zJC24 : z_P24 z_JC := fun x1 x2 x3 M h => z_joC h.2 (zJ24 x1 x2 x3 M h.1)
theorem zJC25 : z_P25 z_JC := fun x1 x2 x3 x4 M h => z_joC h.2 (zJ25 x1 x2 x3 x4 M h.1)
theorem zJC26 : z_P26 z_JC := fun x1 x2 x3 M h => z_joC h.2 (zJ26 x1 x2 x3 M h.1)
theorem zJC27 : z_P27 z_JC := fun x1 x2 x3 M h => z_joC h.2 (zJ27 x1 x2 x3 M h.1)
theorem zJC28 : z_P28 z_JC := fun x1 x2 x3 M h => z_joC h.2 (zJ28 x1 x2 x3 M h.1)
theorem zJC29 : z_P29 z_JC := fun x1 x2 x3 M h => z_joC h.2 (zJ29 x1 x2 x3 M h.1)
theorem zJC30 : z_P30 z_JC := fun x1 M h => z_joC h.2 (zJ30 x1 M h.1)
theorem zJC31 : z_P31 z_JC := fun x1 x2 M h => z_joC h.2 (zJ31 x1 x2 M h.1)
theorem zJC32 : z_P32 z_JC := fun x1 x2 x3 M h => z_joC h.2 (zJ32 x1 x2 x3 M h.1)
theorem zJC33 : z_P33 z_JC := fun x1 x2 x3 M h => z_joC h.2 (zJ33 x1 x2 x3 M h.1)
theorem zJC34 : z_P34 z_JC := fun x1 x2 M h => z_joC h.2 (zJ34 x1 x2 M h.1)
theorem zJC35 : z_P35 z_JC := fun x1 x2 x3 x4 x5 M h => z_joC h.2 (zJ35 x1 x2 x3 x4 x5 M h.1)
theorem zJC36 : z_P36 z_JC := fun x1 x2 M h => z_joC h.2 (zJ36 x1 x2 M h.1)
theorem zJC37 : z_P37 z_JC := fun x1 M h => z_joC h.2 (zJ37 x1 M h.1)
/-- every script: the law's run on the mini-VM answers 1 -/
theorem z_all (L : Nat) (xs : Nat → Int32) (hL : L ≤ 3072) : ∃ n d M1, z_run n d 0 0 (z_ent [.ref 0] 4) [] (z_M0 L xs) = some (some (.int 1), M1) ∧ d ≤ 2047 ∧ M1.length ≤ 600000 ∧ z_sz M1 ≤ 7302249 := by
  exact z_all_of z_JC z_freshJC (z_step_of (fun _ h => z_J4 h.1) (fun _ h => z_J19 h.1) zJC0 zJC1 zJC2 zJC3 zJC4 zJC5 zJC6 zJC7 zJC8 zJC9 zJC10 zJC11 zJC12 zJC13 zJC14 zJC15 zJC16 zJC17 zJC18 zJC19 zJC20 zJC21 zJC22 zJC23 zJC24 zJC25 zJC26 zJC27 zJC28 zJC29 zJC30 zJC31 zJC32 zJC33 zJC34 zJC35 zJC36 zJC37) L xs hL
