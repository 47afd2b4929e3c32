/-! lemmas of the walks -/
theorem z_inr {x : Int32} {n : Nat} (h0 : 0 ≤ x.toInt) (h1 : x.toInt < n) : ¬ (x < 0 ∨ n ≤ x.toNatClampNeg) := by
  rintro (h | h)
  · have h2 := Int32.lt_iff_toInt_lt.mp h
    rw [show (0 : Int32).toInt = 0 from rfl] at h2
    omega
  · unfold Int32.toNatClampNeg at h
    omega
theorem z_cll {x : Int32} {n : Nat} (h1 : x.toInt < n) (h2 : 0 < n) : x.toNatClampNeg < n := by
  unfold Int32.toNatClampNeg
  omega
theorem z_sub {x k : Int32} {c : Int} (e : x.toInt = c) (hk : k.toInt = c) : x = k := Int32.toInt_inj.mp (e.trans hk.symm)
theorem z_etd {d j pc len t : Nat} {dd lo hi : Int} {offs : Array Int} {L : zL} {x : Int32} {r : zS} {M : zH} {K : Option Value → zH → Prop} (hd : decode (z_b j) pc = .ok (.tableswitch dd lo hi offs, len)) (ht : z_tg pc dd = some t) (hx : x.toInt < lo ∨ hi < x.toInt) (k : z_ev d j t L r M K) : z_ev d j pc L (.int x :: r) M K :=
  z_e1 hd rfl (by cases r <;> rfl) (by simp only [z_s1]; rw [if_pos hx, ht]) k
/-- the law's end -/
def z_K1 (v : Option Value) (M : zH) : Prop := v = some (.int 1) ∧ M.length ≤ 600000 ∧ z_sz M ≤ 7302249
theorem z_addx {c x : Int32} {k : Int} (hc : c.toInt = k) (h1 : -2147483648 ≤ k + x.toInt) (h2 : k + x.toInt < 2147483648) : (x + c).toInt = k + x.toInt := by
  rw [Int32.toInt_add, hc, Int.add_comm, Int.bmod_eq_of_le (by omega) (by omega)]
