/-! broken of both sides -/
theorem z_2q1T : ∀ q, q < 11 → ((1 : Int32) <<< ((Int32.ofNat q) &&& 31)).toInt = ((2 ^ q : Nat) : Int) := by decide +kernel
theorem z_2q1 {x c : Int32} (h0 : 0 ≤ x.toInt) (h1 : x.toInt ≤ 10) (hc : c = (1 : Int32) <<< (x &&& 31)) : c.toInt = ((2 ^ x.toInt.toNat : Nat) : Int) := by
  have e : x = Int32.ofNat x.toInt.toNat := z_of32 (by omega) (by omega)
  have hT := z_2q1T x.toInt.toNat (by omega)
  rw [← e, ← hc] at hT
  exact hT
theorem z_R6.at {T : List zK} {M : zH} (h6 : z_R6 T M) {A p : Int32} (hA : z_F M 4 3 = some (.int A)) (h0 : 0 ≤ p.toInt) (hp : p.toInt < A.toInt) {b N q t m : Nat} (ho : z_O M 10 p.toNatClampNeg = some b) (kb : T[b]? = some (.inl (3, q, t, m, 9))) (hf : z_F M b 0 = some (.ref N)) : ∃ (pr en : Nat) (B : Nat → Nat), z_AB T M p.toNatClampNeg b N q t m pr en B := by
  have ex : (p.toNatClampNeg : Int) = p.toInt := by unfold Int32.toNatClampNeg; omega
  obtain ⟨b', N', q', t', m', pr, en, B, hAB⟩ := h6 A hA p.toNatClampNeg (by omega)
  have ob' := hAB.1
  have kb' := hAB.2.1
  have fb' := hAB.2.2.1
  obtain rfl : b = b' := Option.some.inj (ho.symm.trans ob')
  rw [kb] at kb'
  cases kb'
  obtain rfl : N = N' := by rw [hf] at fb'; cases fb'; rfl
  exact ⟨pr, en, B, hAB⟩
