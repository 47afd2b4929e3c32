/-! what told answers force -/
theorem z_1shc : ∀ x, x < 10 → ∀ i, i < 32 → ((1 : Int32) <<< ((Int32.ofNat x) &&& 31)).toBitVec.getLsbD i = decide (i = x) := by decide +kernel
theorem z_1shl : ∀ x, x < 10 → ((1 : Int32) <<< ((Int32.ofNat x) &&& 31)).toBitVec.toNat < 1024 := by decide +kernel
theorem z_orw {v c e x6 : Int32} {x : Nat} (hv : 0 ≤ v.toInt ∧ v.toInt < 1024) (h6 : x6.toInt = (x : Int)) (hx : x < 10) (hc : c = (1 : Int32) <<< (x6 &&& 31)) (he : e = v ||| c) : (0 ≤ e.toInt ∧ e.toInt < 1024) ∧ ∀ i, i < 10 → (e.toInt.toNat / 2 ^ i % 2 = 1 ↔ v.toInt.toNat / 2 ^ i % 2 = 1 ∨ i = x) := by
  have h1 := z_nn hv.1
  have h2 : c.toBitVec.toNat < 1024 := by rw [hc, z_of32 h6 (by omega)]; exact z_1shl x hx
  have h3 : e.toBitVec.toNat < 2 ^ 10 := by
    rw [he, Int32.toBitVec_or, BitVec.toNat_or]
    exact Nat.or_lt_two_pow (by omega) (by omega)
  have h4 : e.toInt = (e.toBitVec.toNat : Int) := BitVec.toInt_eq_toNat_of_lt (by omega)
  have h0 : 0 ≤ e.toInt ∧ e.toInt < 1024 := ⟨by omega, by omega⟩
  refine ⟨h0, fun i hi => ?_⟩
  rw [← z_bt32 h0.1, ← z_bt32 hv.1, he, Int32.toBitVec_or, BitVec.getLsbD_or, Bool.or_eq_true, hc, z_of32 h6 (by omega), z_1shc x hx i (by omega), decide_eq_true_eq]
  all_goals exact Iff.rfl
section ZIM
variable {B : Nat → Nat} {q y n b i c k sp m : Nat} {w : Int} {u l l2 r : Int64} {Y : Nat → Int64}
end ZIM
section ZFB
variable {S : Nat → Int32} {y n s : Int32} {k c i : Nat} {x x2 : Int}
end ZFB
