/-! every script, both relations -/
def z_JJ (M : zH) : Prop := z_JA M ∧ z_J M
theorem z_freshJJ : z_freshOk z_JJ := fun L xs M h1 h2 h3 => ⟨z_freshJA L xs M h1 h2 h3, z_freshJ L xs M h1 h2 h3⟩
theorem z_jo {d j k : Nat} {l1 l2 : zL} {M : zH} {A B : Option Value → Prop} {C1 C2 : Option Value → Option Value → Prop} {I1 I2 : zH → Prop}
    (h1 : z_ev d j 0 l1 [] M fun v M1 => A v ∧ z_ev d k 0 l2 [] M1 fun v2 M2 => B v2 ∧ C1 v v2 ∧ I1 M2 ∧ M2.length ≤ M.length + 1171 ∧ z_szr M2 ≤ z_szr M + 14000)
    (h2 : z_ev d j 0 l1 [] M fun v M1 => A v ∧ z_ev d k 0 l2 [] M1 fun v2 M2 => B v2 ∧ C2 v v2 ∧ I2 M2 ∧ M2.length ≤ M.length + 1171 ∧ z_szr M2 ≤ z_szr M + 14000) :
    z_ev d j 0 l1 [] M fun v M1 => A v ∧ z_ev d k 0 l2 [] M1 fun v2 M2 => B v2 ∧ (C1 v v2 ∧ C2 v v2) ∧ (I1 M2 ∧ I2 M2) ∧ M2.length ≤ M.length + 1171 ∧ z_szr M2 ≤ z_szr M + 14000 :=
  (h1.and h2).mono fun _ _ ⟨⟨a, b⟩, _, b2⟩ => ⟨a, (b.and b2).mono fun _ _ ⟨⟨c1, c2, c3, c4, c5⟩, _, e2, e3, _, _⟩ => ⟨c1, ⟨c2, e2⟩, ⟨c3, e3⟩, c4, c5⟩⟩
theorem zJJ0 : z_P0 z_JJ := fun x1 x2 M h => (z_jo (zJA0 x1 x2 M h.1) (zS0 x1 x2 M h.2)).mono fun v M1 ⟨a, b⟩ => ⟨a, b.mono fun v2 M2 ⟨c, e, f, g⟩ => ⟨c, trivial, f, g⟩⟩
theorem zJJ1 : z_P1 z_JJ := fun  M h => (z_jo (zJA1  M h.1) (zJ1  M h.2)).mono fun v M1 ⟨a, b⟩ => ⟨a, b.mono fun v2 M2 ⟨c, e, f, g⟩ => ⟨c, trivial, f, g⟩⟩
theorem zJJ2 : z_P2 z_JJ := fun x1 x2 M h => (z_jo (zJA2 x1 x2 M h.1) (zJ2 x1 x2 M h.2)).mono fun v M1 ⟨a, b⟩ => ⟨a, b.mono fun v2 M2 ⟨c, e, f, g⟩ => ⟨c, trivial, f, g⟩⟩
theorem zJJ3 : z_P3 z_JJ := fun x1 x2 M h => (z_jo (zJA3 x1 x2 M h.1) (zJ3 x1 x2 M h.2)).mono fun v M1 ⟨a, b⟩ => ⟨a, b.mono fun v2 M2 ⟨c, e, f, g⟩ => ⟨c, trivial, f, g⟩⟩
theorem zJJ4 : z_P4 z_JJ := fun x1 x2 M h => (z_jo (zJA4 x1 x2 M h.1) (zJ4 x1 x2 M h.2)).mono fun v M1 ⟨a, b⟩ => ⟨a, b.mono fun v2 M2 ⟨c, e, f, g⟩ => ⟨c, trivial, f, g⟩⟩
theorem zJJ5 : z_P5 z_JJ := fun x1 x2 x3 M h => (z_jo (zJA5 x1 x2 x3 M h.1) (zJ5 x1 x2 x3 M h.2)).mono fun v M1 ⟨a, b⟩ => ⟨a, b.mono fun v2 M2 ⟨c, e, f, g⟩ => ⟨c, trivial, f, g⟩⟩
theorem zJJ6 : z_P6 z_JJ := fun x1 x2 x3 x4 M h => (z_jo (zJA6 x1 x2 x3 x4 M h.1) (zJ6 x1 x2 x3 x4 M h.2)).mono fun v M1 ⟨a, b⟩ => ⟨a, b.mono fun v2 M2 ⟨c, e, f, g⟩ => ⟨c, trivial, f, g⟩⟩
theorem zJJ7 : z_P7 z_JJ := fun x1 x2 x3 M h => (z_jo (zJA7 x1 x2 x3 M h.1) (zJ7 x1 x2 x3 M h.2)).mono fun v M1 ⟨a, b⟩ => ⟨a, b.mono fun v2 M2 ⟨c, e, f, g⟩ => ⟨c, trivial, f, g⟩⟩
theorem zJJ8 : z_P8 z_JJ := fun x1 x2 x3 x4 M h => (z_jo (zJA8 x1 x2 x3 x4 M h.1) (zS8 x1 x2 x3 x4 M h.2)).mono fun v M1 ⟨a, b⟩ => ⟨a, b.mono fun v2 M2 ⟨c, e, f, g⟩ => ⟨c, trivial, f, g⟩⟩
theorem zJJ9 : z_P9 z_JJ := fun x1 x2 x3 x4 M h => (z_jo (zJA9 x1 x2 x3 x4 M h.1) (zS9 x1 x2 x3 x4 M h.2)).mono fun v M1 ⟨a, b⟩ => ⟨a, b.mono fun v2 M2 ⟨c, e, f, g⟩ => ⟨c, trivial, f, g⟩⟩
theorem zJJ10 : z_P10 z_JJ := fun x1 x2 x3 x4 M h => (z_jo (zJA10 x1 x2 x3 x4 M h.1) (zT10 h.1 h.2)).mono fun v M1 ⟨a, b⟩ => ⟨a, b.mono fun v2 M2 ⟨c, e, f, g⟩ => ⟨c, trivial, f, g⟩⟩
theorem zJJ11 : z_P11 z_JJ := fun x1 M h => (z_jo (zJA11 x1 M h.1) (zS11 x1 M h.2)).mono fun v M1 ⟨a, b⟩ => ⟨a, b.mono fun v2 M2 ⟨c, e, f, g⟩ => ⟨c, trivial, f, g⟩⟩
theorem zJJ12 : z_P12 z_JJ := fun x1 x2 x3 M h => (z_jo (zJA12 x1 x2 x3 M h.1) (zJ12 x1 x2 x3 M h.2)).mono fun v M1 ⟨a, b⟩ => ⟨a, b.mono fun v2 M2 ⟨c, e, f, g⟩ => ⟨c, trivial, f, g⟩⟩
theorem zJJ13 : z_P13 z_JJ := fun x1 x2 x3 M h => (z_jo (zJA13 x1 x2 x3 M h.1) (zJ13 x1 x2 x3 M h.2)).mono fun v M1 ⟨a, b⟩ => ⟨a, b.mono fun v2 M2 ⟨c, e, f, g⟩ => ⟨c, trivial, f, g⟩⟩
theorem zJJ14 : z_P14 z_JJ := fun x1 x2 M h => (z_jo (zJA14 x1 x2 M h.1) (zJ14 x1 x2 M h.2)).mono fun v M1 ⟨a, b⟩ => ⟨a, b.mono fun v2 M2 ⟨c, e, f, g⟩ => ⟨c, trivial, f, g⟩⟩
theorem zJJ15 : z_P15 z_JJ := fun x1 x2 M h => (z_jo (zJA15 x1 x2 M h.1) (zS15 x1 x2 M h.2)).mono fun v M1 ⟨a, b⟩ => ⟨a, b.mono fun v2 M2 ⟨c, e, f, g⟩ => ⟨c, trivial, f, g⟩⟩
theorem zJJ16 : z_P16 z_JJ := fun x1 x2 x3 M h => (z_jo (zJA16 x1 x2 x3 M h.1) (zJ16 x1 x2 x3 M h.2)).mono fun v M1 ⟨a, b⟩ => ⟨a, b.mono fun v2 M2 ⟨c, e, f, g⟩ => ⟨c, trivial, f, g⟩⟩
theorem zJJ17 : z_P17 z_JJ := fun x1 x2 M h => (z_jo (zJA17 x1 x2 M h.1) (zJ17 x1 x2 M h.2)).mono fun v M1 ⟨a, b⟩ => ⟨a, b.mono fun v2 M2 ⟨c, e, f, g⟩ => ⟨c, trivial, f, g⟩⟩
theorem zJJ18 : z_P18 z_JJ := fun x1 x2 x3 M h => (z_jo (zJA18 x1 x2 x3 M h.1) (zT18 h.1 h.2)).mono fun v M1 ⟨a, b⟩ => ⟨a, b.mono fun v2 M2 ⟨c, e, f, g⟩ => ⟨c, trivial, f, g⟩⟩
theorem zJJ19 : z_P19 z_JJ := fun x1 x2 M h => (z_jo (zJA19 x1 x2 M h.1) (zJ19 x1 x2 M h.2)).mono fun v M1 ⟨a, b⟩ => ⟨a, b.mono fun v2 M2 ⟨c, e, f, g⟩ => ⟨c, trivial, f, g⟩⟩
theorem zJJ20 : z_P20 z_JJ := fun x1 x2 x3 x4 M h => (z_jo (zJA20 x1 x2 x3 x4 M h.1) (zJ20 x1 x2 x3 x4 M h.2)).mono fun v M1 ⟨a, b⟩ => ⟨a, b.mono fun v2 M2 ⟨c, e, f, g⟩ => ⟨c, trivial, f, g⟩⟩
theorem zJJ21 : z_P21 z_JJ := fun x1 x2 x3 x4 x5 M h => (z_jo (zJA21 x1 x2 x3 x4 x5 M h.1) (zJ21 x1 x2 x3 x4 x5 M h.2)).mono fun v M1 ⟨a, b⟩ => ⟨a, b.mono fun v2 M2 ⟨c, e, f, g⟩ => ⟨c, trivial, f, g⟩⟩
theorem zJJ22 : z_P22 z_JJ := fun x1 x2 x3 x4 M h => (z_jo (zJA22 x1 x2 x3 x4 M h.1) (zJ22 x1 x2 x3 x4 M h.2)).mono fun v M1 ⟨a, b⟩ => ⟨a, b.mono fun v2 M2 ⟨c, e, f, g⟩ => ⟨c, trivial, f, g⟩⟩
theorem zJJ23 : z_P23 z_JJ := fun x1 x2 x3 M h => (z_jo (zJA23 x1 x2 x3 M h.1) (zT23 h.1 h.2)).mono fun v M1 ⟨a, b⟩ => ⟨a, b.mono fun v2 M2 ⟨c, e, f, g⟩ => ⟨c, trivial, f, g⟩⟩
theorem zJJ24 : z_P24 z_JJ := fun x1 x2 x3 M h => (z_jo (zJA24 x1 x2 x3 M h.1) (zJ24 x1 x2 x3 M h.2)).mono fun v M1 ⟨a, b⟩ => ⟨a, b.mono fun v2 M2 ⟨c, e, f, g⟩ => ⟨c, trivial, f, g⟩⟩
theorem zJJ25 : z_P25 z_JJ := fun x1 x2 x3 x4 M h => (z_jo (zJA25 x1 x2 x3 x4 M h.1) (zJ25 x1 x2 x3 x4 M h.2)).mono fun v M1 ⟨a, b⟩ => ⟨a, b.mono fun v2 M2 ⟨c, e, f, g⟩ => ⟨c, trivial, f, g⟩⟩
theorem zJJ26 : z_P26 z_JJ := fun x1 x2 x3 M h => (z_jo (zJA26 x1 x2 x3 M h.1) (zJ26 x1 x2 x3 M h.2)).mono fun v M1 ⟨a, b⟩ => ⟨a, b.mono fun v2 M2 ⟨c, e, f, g⟩ => ⟨c, trivial, f, g⟩⟩
theorem zJJ27 : z_P27 z_JJ := fun x1 x2 x3 M h => (z_jo (zJA27 x1 x2 x3 M h.1) (zJ27 x1 x2 x3 M h.2)).mono fun v M1 ⟨a, b⟩ => ⟨a, b.mono fun v2 M2 ⟨c, e, f, g⟩ => ⟨c, trivial, f, g⟩⟩
theorem zJJ28 : z_P28 z_JJ := fun x1 x2 x3 M h => (z_jo (zJA28 x1 x2 x3 M h.1) (zT28 h.1 h.2)).mono fun v M1 ⟨a, b⟩ => ⟨a, b.mono fun v2 M2 ⟨c, e, f, g⟩ => ⟨c, e.2, f, g⟩⟩
theorem zJJ29 : z_P29 z_JJ := fun x1 x2 x3 M h => (z_jo (zJA29 x1 x2 x3 M h.1) (zJ29 x1 x2 x3 M h.2)).mono fun v M1 ⟨a, b⟩ => ⟨a, b.mono fun v2 M2 ⟨c, e, f, g⟩ => ⟨c, trivial, f, g⟩⟩
theorem zJJ30 : z_P30 z_JJ := fun x1 M h => (z_jo (zJA30 x1 M h.1) (zJ30 x1 M h.2)).mono fun v M1 ⟨a, b⟩ => ⟨a, b.mono fun v2 M2 ⟨c, e, f, g⟩ => ⟨c, trivial, f, g⟩⟩
theorem zJJ31 : z_P31 z_JJ := fun x1 x2 M h => (z_jo (zSA31 x1 x2 M h.1) (zJ31 x1 x2 M h.2)).mono fun v M1 ⟨a, b⟩ => ⟨a, b.mono fun v2 M2 ⟨c, e, f, g⟩ => ⟨c, trivial, f, g⟩⟩
theorem zJJ32 : z_P32 z_JJ := fun x1 x2 x3 M h => (z_jo (zSA32 x1 x2 x3 M h.1) (zJ32 x1 x2 x3 M h.2)).mono fun v M1 ⟨a, b⟩ => ⟨a, b.mono fun v2 M2 ⟨c, e, f, g⟩ => ⟨c, trivial, f, g⟩⟩
theorem zJJ33 : z_P33 z_JJ := fun x1 x2 x3 M h => (z_jo (zSA33 x1 x2 x3 M h.1) (zJ33 x1 x2 x3 M h.2)).mono fun v M1 ⟨a, b⟩ => ⟨a, b.mono fun v2 M2 ⟨c, e, f, g⟩ => ⟨c, trivial, f, g⟩⟩
theorem zJJ34 : z_P34 z_JJ := fun x1 x2 M h => (z_jo (zJA34 x1 x2 M h.1) (zJ34 x1 x2 M h.2)).mono fun v M1 ⟨a, b⟩ => ⟨a, b.mono fun v2 M2 ⟨c, e, f, g⟩ => ⟨c, trivial, f, g⟩⟩
theorem zJJ35 : z_P35 z_JJ := fun x1 x2 x3 x4 x5 M h => (z_jo (zSA35 x1 x2 x3 x4 x5 M h.1) (zJ35 x1 x2 x3 x4 x5 M h.2)).mono fun v M1 ⟨a, b⟩ => ⟨a, b.mono fun v2 M2 ⟨c, e, f, g⟩ => ⟨c, trivial, f, g⟩⟩
theorem zJJ36 : z_P36 z_JJ := fun x1 x2 M h => (z_jo (zJA36 x1 x2 M h.1) (zJ36 x1 x2 M h.2)).mono fun v M1 ⟨a, b⟩ => ⟨a, b.mono fun v2 M2 ⟨c, e, f, g⟩ => ⟨c, trivial, f, g⟩⟩
theorem zJJ37 : z_P37 z_JJ := fun x1 M h => (z_jo (zJA37 x1 M h.1) (zJ37 x1 M h.2)).mono fun v M1 ⟨a, b⟩ => ⟨a, b.mono fun v2 M2 ⟨c, e, f, g⟩ => ⟨c, trivial, f, g⟩⟩
/-- every script: the law's run on the mini-VM answers 1 -/
theorem z_all (L : Nat) (xs : Nat → Int32) (hL : L ≤ 3072) : ∃ n d M1, z_run n d 0 0 (z_ent [.ref 0] 4) [] (z_M0 L xs) = some (some (.int 1), M1) ∧ d ≤ 2047 ∧ M1.length ≤ 600000 ∧ z_sz M1 ≤ 7302249 := by
  exact z_all_of z_JJ z_freshJJ (z_step_of (fun _ h => z_J4 h.2) (fun _ h => z_J19 h.2) zJJ0 zJJ1 zJJ2 zJJ3 zJJ4 zJJ5 zJJ6 zJJ7 zJJ8 zJJ9 zJJ10 zJJ11 zJJ12 zJJ13 zJJ14 zJJ15 zJJ16 zJJ17 zJJ18 zJJ19 zJJ20 zJJ21 zJJ22 zJJ23 zJJ24 zJJ25 zJJ26 zJJ27 zJJ28 zJJ29 zJJ30 zJJ31 zJJ32 zJJ33 zJJ34 zJJ35 zJJ36 zJJ37) L xs hL
