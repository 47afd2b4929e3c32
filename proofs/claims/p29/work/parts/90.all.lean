/-! every script -/
theorem zJ0 : z_P0 z_J := fun x1 x2 M h => (zS0 x1 x2 M h).mono fun v M1 ⟨a, b⟩ => ⟨a, b.mono fun v2 M2 ⟨c, _, e⟩ => ⟨c, trivial, e⟩⟩
/-- every script: the law's run on the mini-VM answers 1 -/
theorem z_all (L : Nat) (xs : Nat → Int32) (hL : L ≤ 3072) : ∃ n d M1, z_run n d 0 0 (z_ent [.ref 0] 4) [] (z_M0 L xs) = some (some (.int 1), M1) ∧ d ≤ 2047 ∧ M1.length ≤ 600000 ∧ z_sz M1 ≤ 7302249 := by
  exact z_all_of z_J z_freshJ (z_step_of (fun _ h => z_J4 h) (fun _ h => z_J19 h) zJ0 zJ1 zJ2 zJ3 zJ4 zJ5 zJ6 zJ7 zJ8 zJ9 zJ10 zJ11 zJ12 zJ13 zJ14 zJ15 zJ16 zJ17 zJ18 zJ19 zJ20 zJ21 zJ22 zJ23 zJ24 zJ25 zJ26 zS27 zJ28 zJ29 zJ30 zJ31 zJ32 zJ33 zJ34 zJ35 zJ36 zJ37) L xs hL
