/-- every script: the law's run on the mini-VM answers 1 -/
theorem z_all (L : Nat) (xs : Nat → Int32) (hL : L ≤ 3072) : ∃ n d M1, z_run n d 0 0 (z_ent [.ref 0] 4) [] (z_M0 L xs) = some (some (.int 1), M1) ∧ d ≤ 2047 ∧ M1.length ≤ 600000 ∧ z_sz M1 ≤ 7302249 := by
  sorry
