/-! benches: how many there are -/
def z_T (d k : Nat) : Nat := (z_tc.getD (6 * (d + k - 1) + k) 0).toInt.toNat
theorem z_Tp : ∀ d, d < 13 → ∀ n, n < 6 → (z_tc.getD (6 * (d + n - 1) + n) 0).toInt = ((z_T d n : Nat) : Int) := by decide +kernel
section ZBN
variable {L n : Nat} {f g : Nat → Int32}
end ZBN
/-- CHOOSE as it was made -/
def z_chO (M : zH) : Prop := M[(1 : Nat)]? = some (.inl (0, 102, .inl fun j => z_tc.getD j 0))
