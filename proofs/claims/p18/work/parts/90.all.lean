/-- every script: the law's run on the mini-VM answers 1 -/
theorem z_all (L : Nat) (xs : Nat → Int32) (hL : L ≤ 3072) : ∃ n d M1, z_run n d 0 0 (z_ent [.ref 0] 4) [] (z_M0 L xs) = some (some (.int 1), M1) ∧ d ≤ 2047 ∧ M1.length ≤ 600000 ∧ z_sz M1 ≤ 7302249 := by
  exact z_all_of z_I z_freshI (z_step_of (fun _ h => z_I4 h) (fun _ h => z_I19 h) zPc0 zPc1 zPc2 zPc3 zPc4 zPc5 zPc6 zPc7 zPc8 zPc9 zPc10 zPc11 zPc12 zPc13 zPc14 zPc15 zPc16 zPc17 zPc18 zPc19 zPc20 zPc21 zPc22 zPc23 zPc24 zPc25 zPc26 zPc27 zPc28 zPc29 zPc30 zPc31 zPc32 zPc33 zPc34 zPc35 zPc36 zPc37) L xs hL
