/-! lemmas of the walks -/
theorem z_b_ltx1 {x c : Int32} {k : Int} {a b : Nat} (hc : c.toInt = k) (e : x.toInt < k) : z_br .lt x c a b = a := by subst hc; exact if_pos (Int32.lt_iff_toInt_lt.mpr (e))
theorem z_b_ltx0 {x c : Int32} {k : Int} {a b : Nat} (hc : c.toInt = k) (e : ¬ (x.toInt < k)) : z_br .lt x c a b = b := by subst hc; exact if_neg fun q => e (Int32.lt_iff_toInt_lt.mp q)
theorem z_b_lty1 {x c : Int32} {k : Int} {a b : Nat} (hc : c.toInt = k) (e : k < x.toInt) : z_br .lt c x a b = a := by subst hc; exact if_pos (Int32.lt_iff_toInt_lt.mpr (e))
theorem z_b_lty0 {x c : Int32} {k : Int} {a b : Nat} (hc : c.toInt = k) (e : ¬ (k < x.toInt)) : z_br .lt c x a b = b := by subst hc; exact if_neg fun q => e (Int32.lt_iff_toInt_lt.mp q)
theorem z_b_gex1 {x c : Int32} {k : Int} {a b : Nat} (hc : c.toInt = k) (e : x.toInt < k) : z_br .ge x c a b = b := by subst hc; exact if_pos (Int32.lt_iff_toInt_lt.mpr (e))
theorem z_b_gex0 {x c : Int32} {k : Int} {a b : Nat} (hc : c.toInt = k) (e : ¬ (x.toInt < k)) : z_br .ge x c a b = a := by subst hc; exact if_neg fun q => e (Int32.lt_iff_toInt_lt.mp q)
theorem z_b_gey1 {x c : Int32} {k : Int} {a b : Nat} (hc : c.toInt = k) (e : k < x.toInt) : z_br .ge c x a b = b := by subst hc; exact if_pos (Int32.lt_iff_toInt_lt.mpr (e))
theorem z_b_gey0 {x c : Int32} {k : Int} {a b : Nat} (hc : c.toInt = k) (e : ¬ (k < x.toInt)) : z_br .ge c x a b = a := by subst hc; exact if_neg fun q => e (Int32.lt_iff_toInt_lt.mp q)
theorem z_b_gtx1 {x c : Int32} {k : Int} {a b : Nat} (hc : c.toInt = k) (e : k < x.toInt) : z_br .gt x c a b = a := by subst hc; exact if_pos (Int32.lt_iff_toInt_lt.mpr (e))
theorem z_b_gtx0 {x c : Int32} {k : Int} {a b : Nat} (hc : c.toInt = k) (e : ¬ (k < x.toInt)) : z_br .gt x c a b = b := by subst hc; exact if_neg fun q => e (Int32.lt_iff_toInt_lt.mp q)
theorem z_b_gty1 {x c : Int32} {k : Int} {a b : Nat} (hc : c.toInt = k) (e : x.toInt < k) : z_br .gt c x a b = a := by subst hc; exact if_pos (Int32.lt_iff_toInt_lt.mpr (e))
theorem z_b_gty0 {x c : Int32} {k : Int} {a b : Nat} (hc : c.toInt = k) (e : ¬ (x.toInt < k)) : z_br .gt c x a b = b := by subst hc; exact if_neg fun q => e (Int32.lt_iff_toInt_lt.mp q)
theorem z_b_lex1 {x c : Int32} {k : Int} {a b : Nat} (hc : c.toInt = k) (e : k < x.toInt) : z_br .le x c a b = b := by subst hc; exact if_pos (Int32.lt_iff_toInt_lt.mpr (e))
theorem z_b_lex0 {x c : Int32} {k : Int} {a b : Nat} (hc : c.toInt = k) (e : ¬ (k < x.toInt)) : z_br .le x c a b = a := by subst hc; exact if_neg fun q => e (Int32.lt_iff_toInt_lt.mp q)
theorem z_b_ley1 {x c : Int32} {k : Int} {a b : Nat} (hc : c.toInt = k) (e : x.toInt < k) : z_br .le c x a b = b := by subst hc; exact if_pos (Int32.lt_iff_toInt_lt.mpr (e))
theorem z_b_ley0 {x c : Int32} {k : Int} {a b : Nat} (hc : c.toInt = k) (e : ¬ (x.toInt < k)) : z_br .le c x a b = a := by subst hc; exact if_neg fun q => e (Int32.lt_iff_toInt_lt.mp q)
theorem z_b_eqx1 {x c : Int32} {k : Int} {a b : Nat} (hc : c.toInt = k) (e : x.toInt = k) : z_br .eq x c a b = a := by subst hc; exact if_pos (Int32.toInt_inj.mp (e))
theorem z_b_eqx0 {x c : Int32} {k : Int} {a b : Nat} (hc : c.toInt = k) (e : ¬ (x.toInt = k)) : z_br .eq x c a b = b := by subst hc; exact if_neg fun q => e (congrArg Int32.toInt q)
theorem z_b_eqy1 {x c : Int32} {k : Int} {a b : Nat} (hc : c.toInt = k) (e : x.toInt = k) : z_br .eq c x a b = a := by subst hc; exact if_pos ((Int32.toInt_inj.mp (e)).symm)
theorem z_b_eqy0 {x c : Int32} {k : Int} {a b : Nat} (hc : c.toInt = k) (e : ¬ (x.toInt = k)) : z_br .eq c x a b = b := by subst hc; exact if_neg fun q => e (congrArg Int32.toInt q.symm)
theorem z_b_nex1 {x c : Int32} {k : Int} {a b : Nat} (hc : c.toInt = k) (e : x.toInt = k) : z_br .ne x c a b = b := by subst hc; exact if_pos (Int32.toInt_inj.mp (e))
theorem z_b_nex0 {x c : Int32} {k : Int} {a b : Nat} (hc : c.toInt = k) (e : ¬ (x.toInt = k)) : z_br .ne x c a b = a := by subst hc; exact if_neg fun q => e (congrArg Int32.toInt q)
theorem z_b_ney1 {x c : Int32} {k : Int} {a b : Nat} (hc : c.toInt = k) (e : x.toInt = k) : z_br .ne c x a b = b := by subst hc; exact if_pos ((Int32.toInt_inj.mp (e)).symm)
theorem z_b_ney0 {x c : Int32} {k : Int} {a b : Nat} (hc : c.toInt = k) (e : ¬ (x.toInt = k)) : z_br .ne c x a b = a := by subst hc; exact if_neg fun q => e (congrArg Int32.toInt q.symm)
theorem z_b_ltl1 {x : Int32} {c : Int64} {k : Int} {a b : Nat} (hc : c.toInt = k) (e : x.toInt < k) : z_br .lt (lg_cmp x.toInt64 c) 0 a b = a := by subst hc; exact if_pos ((lg_cmp_lt _ _).mpr (Int64.lt_iff_toInt_lt.mpr (by rw [Int32.toInt_toInt64]; exact e)))
theorem z_b_ltl0 {x : Int32} {c : Int64} {k : Int} {a b : Nat} (hc : c.toInt = k) (e : ¬ (x.toInt < k)) : z_br .lt (lg_cmp x.toInt64 c) 0 a b = b := by subst hc; exact if_neg fun q => e (by have q2 := Int64.lt_iff_toInt_lt.mp ((lg_cmp_lt _ _).mp q); rw [Int32.toInt_toInt64] at q2; exact q2)
theorem z_b_gel1 {x : Int32} {c : Int64} {k : Int} {a b : Nat} (hc : c.toInt = k) (e : x.toInt < k) : z_br .ge (lg_cmp x.toInt64 c) 0 a b = b := by subst hc; exact if_pos ((lg_cmp_lt _ _).mpr (Int64.lt_iff_toInt_lt.mpr (by rw [Int32.toInt_toInt64]; exact e)))
theorem z_b_gel0 {x : Int32} {c : Int64} {k : Int} {a b : Nat} (hc : c.toInt = k) (e : ¬ (x.toInt < k)) : z_br .ge (lg_cmp x.toInt64 c) 0 a b = a := by subst hc; exact if_neg fun q => e (by have q2 := Int64.lt_iff_toInt_lt.mp ((lg_cmp_lt _ _).mp q); rw [Int32.toInt_toInt64] at q2; exact q2)
theorem z_b_gtl1 {x : Int32} {c : Int64} {k : Int} {a b : Nat} (hc : c.toInt = k) (e : k < x.toInt) : z_br .gt (lg_cmp x.toInt64 c) 0 a b = a := by subst hc; exact if_pos ((lg_cmp_gt _ _).mpr (Int64.lt_iff_toInt_lt.mpr (by rw [Int32.toInt_toInt64]; exact e)))
theorem z_b_gtl0 {x : Int32} {c : Int64} {k : Int} {a b : Nat} (hc : c.toInt = k) (e : ¬ (k < x.toInt)) : z_br .gt (lg_cmp x.toInt64 c) 0 a b = b := by subst hc; exact if_neg fun q => e (by have q2 := Int64.lt_iff_toInt_lt.mp ((lg_cmp_gt _ _).mp q); rw [Int32.toInt_toInt64] at q2; exact q2)
theorem z_b_lel1 {x : Int32} {c : Int64} {k : Int} {a b : Nat} (hc : c.toInt = k) (e : k < x.toInt) : z_br .le (lg_cmp x.toInt64 c) 0 a b = b := by subst hc; exact if_pos ((lg_cmp_gt _ _).mpr (Int64.lt_iff_toInt_lt.mpr (by rw [Int32.toInt_toInt64]; exact e)))
theorem z_b_lel0 {x : Int32} {c : Int64} {k : Int} {a b : Nat} (hc : c.toInt = k) (e : ¬ (k < x.toInt)) : z_br .le (lg_cmp x.toInt64 c) 0 a b = a := by subst hc; exact if_neg fun q => e (by have q2 := Int64.lt_iff_toInt_lt.mp ((lg_cmp_gt _ _).mp q); rw [Int32.toInt_toInt64] at q2; exact q2)
theorem z_inr {x : Int32} {n : Nat} (h0 : 0 ≤ x.toInt) (h1 : x.toInt < n) : ¬ (x < 0 ∨ n ≤ x.toNatClampNeg) := by
  rintro (h | h)
  · have h2 := Int32.lt_iff_toInt_lt.mp h
    rw [show (0 : Int32).toInt = 0 from rfl] at h2
    omega
  · unfold Int32.toNatClampNeg at h
    omega
theorem z_cll {x : Int32} {n : Nat} (h1 : x.toInt < n) (h2 : 0 < n) : x.toNatClampNeg < n := by
  unfold Int32.toNatClampNeg
  omega
theorem z_sub {x k : Int32} {c : Int} (e : x.toInt = c) (hk : k.toInt = c) : x = k := Int32.toInt_inj.mp (e.trans hk.symm)
theorem z_etd {d j pc len t : Nat} {dd lo hi : Int} {offs : Array Int} {L : zL} {x : Int32} {r : zS} {M : zH} {K : Option Value → zH → Prop} (hd : decode (z_b j) pc = .ok (.tableswitch dd lo hi offs, len)) (ht : z_tg pc dd = some t) (hx : x.toInt < lo ∨ hi < x.toInt) (k : z_ev d j t L r M K) : z_ev d j pc L (.int x :: r) M K :=
  z_e1 hd rfl (by cases r <;> rfl) (by simp only [z_s1]; rw [if_pos hx, ht]) k
theorem z_nl {M : zH} {a N : Nat} {e : zE} (h : M.length = N) : (M.set a e).length = N := by rw [List.length_set]; exact h
theorem z_np1 {M : zH} {N : Nat} {e : zE} (h : M.length = N) : (M ++ [e]).length = N + 1 := by rw [List.length_append, h]; rfl
theorem z_szs {M : zH} {a q : Nat} {e e0 : zE} (hM : M[a]? = some e0) (hz : z_cz e = z_cz e0) (h : z_sz M ≤ q) : z_sz (M.set a e) ≤ q := by rw [z_sz_set hM hz]; exact h
theorem z_szp {M : zH} {q q1 : Nat} {e : zE} (h : z_sz M ≤ q) (he : q + z_cz e ≤ q1) : z_sz (M ++ [e]) ≤ q1 := by rw [z_sz_push]; omega
/-- the law's end -/
def z_K1 (v : Option Value) (M : zH) : Prop := v = some (.int 1) ∧ M.length ≤ 600000 ∧ z_sz M ≤ 7302249
theorem z_K1i {M : zH} {N q : Nat} (hN : M.length = N) (hq : z_sz M ≤ q) (h1 : N ≤ 600000) (h2 : q ≤ 7302249) : z_K1 (some (.int 1)) M := ⟨rfl, hN ▸ h1, Nat.le_trans hq h2⟩
theorem z_addk {c x : Int32} {k : Int} (hc : c.toInt = k) (h1 : -2147483648 ≤ k + x.toInt) (h2 : k + x.toInt < 2147483648) : (c + x).toInt = k + x.toInt := by
  rw [Int32.toInt_add, hc, Int.bmod_eq_of_le (by omega) (by omega)]
theorem z_addx {c x : Int32} {k : Int} (hc : c.toInt = k) (h1 : -2147483648 ≤ k + x.toInt) (h2 : k + x.toInt < 2147483648) : (x + c).toInt = k + x.toInt := by
  rw [Int32.toInt_add, hc, Int.add_comm, Int.bmod_eq_of_le (by omega) (by omega)]
theorem z_setid {M : zH} {a : Nat} {e : zE} (h : M[a]? = some e) : M.set a e = M := by
  apply List.ext_getElem?
  intro k
  rw [List.getElem?_set]
  split
  · rename_i hk
    subst hk
    rw [if_pos (List.getElem?_eq_some_iff.mp h).1, h]
  · rfl
