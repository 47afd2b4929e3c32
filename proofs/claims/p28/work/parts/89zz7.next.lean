/-! the next bench or row; how many benches there are -/
section ZNX
variable {m n r : Nat} {f g F : Nat → Nat}
/-- the next bench (r = 0) or row (r = 1) -/
def z_nx (r m n : Nat) (f : Nat → Nat) : Nat → Nat := fun i => if z_rz m f n = 0 then f i else if i + 1 < z_rz m f n then f i else if r = 1 ∧ z_rz m f n < i + 1 then 0 else f (z_rz m f n - 1) + 1
theorem z_nxL {i : Nat} (h : i + 1 < z_rz m f n) : z_nx r m n f i = f i := by
  show (if z_rz m f n = 0 then f i else if i + 1 < z_rz m f n then f i else if r = 1 ∧ z_rz m f n < i + 1 then 0 else f (z_rz m f n - 1) + 1) = f i
  rw [if_neg (show ¬ z_rz m f n = 0 by omega), if_pos h]
theorem z_nxU {i j : Nat} (h : z_rz m f n = j + 1) (h1 : j ≤ i) (h2 : r ≠ 1 ∨ i = j) : z_nx r m n f i = f j + 1 := by
  show (if z_rz m f n = 0 then f i else if i + 1 < z_rz m f n then f i else if r = 1 ∧ z_rz m f n < i + 1 then 0 else f (z_rz m f n - 1) + 1) = f j + 1
  rw [h, if_neg (Nat.succ_ne_zero j), if_neg (show ¬ i + 1 < j + 1 by omega), if_neg (show ¬ (r = 1 ∧ j + 1 < i + 1) by omega), Nat.add_sub_cancel]
theorem z_nxZ {i j : Nat} (h : z_rz m f n = j + 1) (h1 : j < i) (h2 : r = 1) : z_nx r m n f i = 0 := by
  show (if z_rz m f n = 0 then f i else if i + 1 < z_rz m f n then f i else if r = 1 ∧ z_rz m f n < i + 1 then 0 else f (z_rz m f n - 1) + 1) = 0
  rw [h, if_neg (Nat.succ_ne_zero j), if_neg (show ¬ i + 1 < j + 1 by omega), if_pos (show r = 1 ∧ j + 1 < i + 1 by omega)]
end ZNX
