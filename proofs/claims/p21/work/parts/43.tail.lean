/-! the end of an agenda's constructor -/
theorem zzcV2_69 : (z_find z_cV 2 69).map (·.1) = some (1, 0, [(2, 26)]) := by decide +kernel
theorem zzm26 : z_ml 26 = 4 := by decide +kernel
theorem zzr23 : z_rt 23 = none := by decide +kernel
