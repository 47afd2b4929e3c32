/-! ranks of benches; what a way's outcome at a bench hangs on -/
def z_Cb : Nat → Nat → Nat
  | _, 0 => 1
  | 0, _ + 1 => 0
  | a + 1, b + 1 => z_Cb a b + z_Cb a (b + 1)
/-- the rank of numbers that don't fall -/
def z_Rk (H : Nat → Nat) : Nat → Nat
  | 0 => 0
  | n + 1 => z_Rk H n + z_Cb (H n + n) (n + 1)
def z_sr (H : Nat → Nat) (n : Nat) : Prop := ∀ i, i + 1 < n → H i ≤ H (i + 1)
section ZRK
variable {H H2 o F F2 : Nat → Nat} {n m b x j i : Nat}
/-! one more among the others -/
def z_si (g : Nat → Int) : Nat → Int
  | 0 => 0
  | n + 1 => z_si g n + g n
/-- j has number x -/
def z_fx1 (F : Nat → Nat) (j x : Nat) : Nat → Nat := fun i => if i = j then x else F i
/-- the same numbers, whoever has which -/
def z_eqm (F F2 : Nat → Nat) (n : Nat) : Prop := ∀ g : Nat → Int, z_si (fun i => g (F i)) n = z_si (fun i => g (F2 i)) n
theorem z_eqm.refl : z_eqm F F n := fun _ => rfl
end ZRK
/-! what an outcome hangs on -/
def z_SA (q m : Nat) (S : Nat → Int32) (A : Int32) : Prop := (1 ≤ q ∧ q ≤ 10) ∧ A.toInt = ((2 ^ q : Nat) : Int) - 1 ∧ ∀ v, v < m → 0 ≤ (S v).toInt ∧ (S v).toInt < ((2 ^ q : Nat) : Int)
section ZOC
variable {B : Nat → Nat} {c q pr en sh ch m n y u v k s r r2 : Nat} {L L2 : Nat → Int} {S : Nat → Int32} {A : Int32} {F F2 H H2 : Nat → Nat}
theorem z_SA.jok (h : z_SA q m S A) (hF : ∀ j, j < n → F j < m) : ∀ j, j < n → z_jok q (z_w1 j) (z_yS S F j) (z_nS S A F j) := fun j hj => ⟨z_ansNo (Y := S (F j)) h.2.1 h.1.2 (h.2.2 (F j) (hF j hj)), show 1 ≤ (1 : Int32).toInt ∧ (1 : Int32).toInt ≤ 9 by decide⟩
/-- the place of a bench in the memory -/
def z_plc (c m n ch r : Nat) (F : Nat → Nat) : Nat := if c = 11 then (if ch < n then F ch else 0) else if c = 10 ∧ ch < n ∧ n % 2 = 0 then r * m + F ch else r
end ZOC
