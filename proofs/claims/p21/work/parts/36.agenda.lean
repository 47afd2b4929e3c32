/-! an agenda is made: its constructor up to its loop -/
theorem zzi23 : ((z_name 23).name == "<init>") = true := by decide +kernel
theorem zzn2 : "DoorBench$Agenda" = z_cn 2 := by decide +kernel
theorem zzcI2_3 : (z_find z_cI 2 3).map (·.1) = some (7, 0, []) := by decide +kernel
theorem zzf2_19 : z_fF 2 19 = some ((2, [2]), "DoorBench$Agenda") := by decide +kernel
theorem zzf2_22 : z_fF 2 22 = some ((3, [2]), "DoorBench$Agenda") := by decide +kernel
theorem z_blle {q : Nat} (h : q ≤ 6) : z_bl q = 1 := if_pos h
theorem z_blgt {q : Nat} (h : 6 < q) : z_bl q = 2 ^ (q - 6) := if_neg (by omega)
theorem z_blb {q : Nat} (h0 : 1 ≤ q) (h1 : q ≤ 10) : 1 ≤ z_bl q ∧ z_bl q ≤ 16 := by
  have : ∀ k : Nat, k < 11 → 1 ≤ z_bl k ∧ z_bl k ≤ 16 := by decide
  exact this q (by omega)
theorem z_pob {q : Nat} (h1 : q ≤ 10) : z_po q ≤ 1024 ∧ 1 ≤ z_po q := by
  have : ∀ k : Nat, k < 11 → z_po k ≤ 1024 ∧ 1 ≤ z_po k := by decide
  exact this q (by omega)
theorem z_pob2 {q : Nat} (h1 : q ≤ 10) : 2 ^ (q - 6) ≤ 16 := by
  have : ∀ k : Nat, k < 11 → 2 ^ (k - 6) ≤ 16 := by decide
  exact this q (by omega)
theorem z_nlo {x : Int32} (h0 : 0 ≤ x.toInt) (h1 : x.toInt ≤ 1000000) : ¬ (x < 0 ∨ 1000000 < x.toNatClampNeg) := fun h => h.elim (fun h => by have := Int32.lt_iff_toInt_lt.mp h; rw [show (0 : Int32).toInt = 0 from rfl] at this; omega) (fun h => by unfold Int32.toNatClampNeg at h; omega)
