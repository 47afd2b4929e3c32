/-! orders: the bits left; rows by numbers: their place -/
def z_pcn (x : Int) : Int := ((List.range 6).map fun i => ((x.toNat / 2 ^ i % 2 : Nat) : Int)).sum
theorem z_clrd : ∀ l, l < 64 → ∀ v, v < 6 → (((Int32.ofNat l >>> (Int32.ofNat v &&& 31)) &&& 1).toInt = 1 → 0 ≤ (Int32.ofNat l &&& (((1 : Int32) <<< (Int32.ofNat v &&& 31)) ^^^ (-1))).toInt ∧ (Int32.ofNat l &&& (((1 : Int32) <<< (Int32.ofNat v &&& 31)) ^^^ (-1))).toInt < (Int32.ofNat l).toInt ∧ z_pcn (Int32.ofNat l &&& (((1 : Int32) <<< (Int32.ofNat v &&& 31)) ^^^ (-1))).toInt + 1 = z_pcn (Int32.ofNat l).toInt ∧ 0 ≤ z_pcn (Int32.ofNat l &&& (((1 : Int32) <<< (Int32.ofNat v &&& 31)) ^^^ (-1))).toInt) := by decide +kernel
theorem z_pcd : ∀ l, l < 64 → 0 ≤ z_pcn (Int32.ofNat l).toInt ∧ z_pcn (Int32.ofNat l).toInt ≤ 6 := by decide +kernel
theorem z_ofn {x : Int32} {n : Nat} (h : 0 ≤ x.toInt) (hn : x.toInt < n) (hb : n ≤ 1000) : ∃ l, l < n ∧ x = Int32.ofNat l := by
  refine ⟨x.toInt.toNat, by omega, Int32.toInt_inj.mp ?_⟩
  rw [Int32.toInt_ofNat_of_lt (by omega)]
  omega
theorem z_pcn6 {x : Int32} (h : 0 ≤ x.toInt) (h2 : x.toInt ≤ 63) : 0 ≤ z_pcn x.toInt ∧ z_pcn x.toInt ≤ 6 := by
  obtain ⟨l, hl, rfl⟩ := z_ofn (n := 64) h (by omega) (by decide)
  exact z_pcd l hl
theorem z_clr {l v a b c e : Int32} (ha : a = l >>> (v &&& 31)) (hb : b = a &&& 1) (hb1 : b.toInt = 1) (hc : c = (1 : Int32) <<< (v &&& 31)) (he : e = c ^^^ (-1)) (l0 : 0 ≤ l.toInt) (l1 : l.toInt ≤ 63) (v0 : 0 ≤ v.toInt) (v1 : v.toInt ≤ 5) : 0 ≤ (l &&& e).toInt ∧ (l &&& e).toInt < l.toInt ∧ z_pcn (l &&& e).toInt + 1 = z_pcn l.toInt ∧ 0 ≤ z_pcn (l &&& e).toInt := by
  subst ha hb hc he
  obtain ⟨p, hp, rfl⟩ := z_ofn (n := 64) l0 (by omega) (by decide)
  obtain ⟨q, hq, rfl⟩ := z_ofn (n := 6) v0 (by omega) (by decide)
  exact z_clrd p hp q hq hb1
/-- numbers put in order: v is told by those that came, u says which of three may come yet -/
def z_RI (f0 f1 f2 n k j v : Int) : Prop := ∃ u0 u1 u2 : Int, (u0 = 0 ∨ u0 = 1) ∧ (u1 = 0 ∨ u1 = 1) ∧ (u2 = 0 ∨ u2 = 1) ∧ 0 ≤ v ∧ (n ≤ 0 ∨ u0 = 1 ∨ f0 < k ∨ (f0 = k ∧ 0 < j)) ∧ (n ≤ 1 ∨ u1 = 1 ∨ f1 < k ∨ (f1 = k ∧ 1 < j)) ∧ (n ≤ 2 ∨ u2 = 1 ∨ f2 < k ∨ (f2 = k ∧ 2 < j)) ∧ ((u0 + u1 + u2 = 0 ∧ v ≤ 215) ∨ (u0 + u1 + u2 = 1 ∧ v ≤ 35) ∨ (u0 + u1 + u2 = 2 ∧ v ≤ 5) ∨ (u0 + u1 + u2 = 3 ∧ v ≤ 0))
theorem z_RI0 {f0 f1 f2 n k j v : Int} (hv : v = 0) : z_RI f0 f1 f2 n k j v := ⟨1, 1, 1, Or.inr rfl, Or.inr rfl, Or.inr rfl, by omega, Or.inr (Or.inl rfl), Or.inr (Or.inl rfl), Or.inr (Or.inl rfl), Or.inr (Or.inr (Or.inr ⟨rfl, by omega⟩))⟩
theorem z_RIb {f0 f1 f2 n k j v : Int} (h : z_RI f0 f1 f2 n k j v) : 0 ≤ v ∧ v ≤ 215 := by
  obtain ⟨u0, u1, u2, a0, a1, a2, hv, b0, b1, b2, hb⟩ := h
  exact ⟨hv, by omega⟩
theorem z_RIk {f0 f1 f2 n k j v k2 j2 : Int} (h : z_RI f0 f1 f2 n k j v) (hk : k2 = k + 1) : z_RI f0 f1 f2 n k2 j2 v := by
  obtain ⟨u0, u1, u2, a0, a1, a2, hv, b0, b1, b2, hb⟩ := h
  exact ⟨u0, u1, u2, a0, a1, a2, hv, by omega, by omega, by omega, hb⟩
theorem z_RIn {f0 f1 f2 n k j v j2 : Int} (h : z_RI f0 f1 f2 n k j v) (hj : j2 = j + 1) : z_RI f0 f1 f2 n k j2 v := by
  obtain ⟨u0, u1, u2, a0, a1, a2, hv, b0, b1, b2, hb⟩ := h
  exact ⟨u0, u1, u2, a0, a1, a2, hv, by omega, by omega, by omega, hb⟩
theorem z_RIm {f0 f1 f2 n k j v j2 w y : Int} (h : z_RI f0 f1 f2 n k j v) (hf : (j = 0 ∧ f0 = y) ∨ (j = 1 ∧ f1 = y) ∨ (j = 2 ∧ f2 = y)) (hy : y = k) (hn : j < n) (hj : j2 = j + 1) (w0 : 0 ≤ w) (w1 : w ≤ 6 * v + 5) : z_RI f0 f1 f2 n k j2 w := by
  obtain ⟨u0, u1, u2, a0, a1, a2, hv, b0, b1, b2, hb⟩ := h
  rcases hf with ⟨j0, hf⟩ | ⟨j0, hf⟩ | ⟨j0, hf⟩
  · exact ⟨0, u1, u2, Or.inl rfl, a1, a2, w0, by omega, by omega, by omega, by omega⟩
  · exact ⟨u0, 0, u2, a0, Or.inl rfl, a2, w0, by omega, by omega, by omega, by omega⟩
  · exact ⟨u0, u1, 0, a0, a1, Or.inl rfl, w0, by omega, by omega, by omega, by omega⟩
theorem z_sel {M : zH} {a b : Nat} {x y : Int32} {j : Int} (h : z_Ar M a x.toNatClampNeg = y) (hx : x.toInt = b + j) (j0 : 0 ≤ j) (j1 : j ≤ 2) : (j = 0 ∧ (z_Ar M a b).toInt = y.toInt) ∨ (j = 1 ∧ (z_Ar M a (b + 1)).toInt = y.toInt) ∨ (j = 2 ∧ (z_Ar M a (b + 2)).toInt = y.toInt) := by
  have e1 : (x.toNatClampNeg : Int) = x.toInt := by unfold Int32.toNatClampNeg; omega
  by_cases c0 : j = 0
  · exact Or.inl ⟨c0, by rw [← h, show x.toNatClampNeg = b from by omega]⟩
  · by_cases c1 : j = 1
    · exact Or.inr (Or.inl ⟨c1, by rw [← h, show x.toNatClampNeg = b + 1 from by omega]⟩)
    · exact Or.inr (Or.inr ⟨by omega, by rw [← h, show x.toNatClampNeg = b + 2 from by omega]⟩)
theorem z_W.fr {M : zH} {T : List zK} (h : z_W M T) {a ci q t m J k : Nat} {κ : zK} (ha : T[a]? = some (.inl (ci, q, t, m, J))) (hk : k < z_nf ci) (hs : z_fsp ci q t m J k = .inr (.inr (some (false, κ)))) : ∃ b, z_F M a k = some (.ref b) ∧ T[b]? = some κ := by
  obtain ⟨v, h1, h2⟩ := h.fld ha hk
  rw [hs] at h2
  match v, h1, h2 with
  | .ref x, h1, h2 => exact ⟨x, h1, h2⟩
theorem z_RIj {f0 f1 f2 n k j v j2 : Int} (h : z_RI f0 f1 f2 n k j v) (hj : j ≤ j2) : z_RI f0 f1 f2 n k j2 v := by
  obtain ⟨u0, u1, u2, a0, a1, a2, hv, b0, b1, b2, hb⟩ := h
  exact ⟨u0, u1, u2, a0, a1, a2, hv, by omega, by omega, by omega, hb⟩
