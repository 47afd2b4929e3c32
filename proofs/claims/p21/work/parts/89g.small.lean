/-! the smallest part that can't stand, as both sides reckon it -/
section ZSG
variable {B : Nat → Nat} {q i x f f2 : Nat} {p t d e : Int32}
end ZSG
/-- the halves of a part -/
theorem z_pof.lo {b y n : Nat} (h : z_pof b (y + 1024 * n)) (hy : y < 1024) : z_pof (b % 1024) y := fun k a => by
  have hk : k < 10 := z_hi9 (Nat.mod_lt _ (by decide)) a
  have h1 := h k
  rw [z_dbl hk] at h1
  refine h1 ?_
  have e : b = b % 1024 + 1024 * (b / 1024) := by omega
  rw [e, z_dbl hk]
  exact a
theorem z_pof.hi {b y n : Nat} (h : z_pof b (y + 1024 * n)) (hy : y < 1024) : z_pof (b / 1024) n := fun k a => by
  have h1 := h (k + 10)
  rw [z_dbh hy] at h1
  refine h1 ?_
  have e : b = b % 1024 + 1024 * (b / 1024) := by omega
  rw [e, z_dbh (Nat.mod_lt _ (by decide))]
  exact a
section YSF
variable {S : Nat → Int32} {m y n i : Nat} {x f x2 f2 : Int}
end YSF
section YSE
variable {B : Nat → Nat} {q m y n p : Nat} {S : Nat → Int32}
end YSE
section YSI
variable {S : Nat → Int32} {m i : Nat} {y n p w1 w2 v : Int32} {x f : Int}
end YSI
