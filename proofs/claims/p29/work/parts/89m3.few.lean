/-! mend: what the few sets say by words -/
def z_smF (F : Nat → Int32) (n : Int) (y no : Int32) (x : Int) : Prop := (x = 1 ∧ ∃ i : Nat, (i : Int) < n ∧ F i &&& (y ||| no) = y) ∨ (x = 0 ∧ ∀ i : Nat, (i : Int) < n → F i &&& (y ||| no) ≠ y)
def z_mjI (a b c : Int32) : Int32 := (a &&& b) ||| ((a ||| b) &&& c)
def z_tP (F : Nat → Int32) (L : Nat → Int64) (i j k : Nat) : Prop := (L ((z_mjI (F i) (F j) (F k)).toInt.toNat / 64)).toBitVec.getLsbD ((z_mjI (F i) (F j) (F k)).toInt.toNat % 64) = true
def z_thQ (F : Nat → Int32) (L : Nat → Int64) (m : Nat) (x : Int) : Prop := (x = 1 ∧ ∀ i j k, i < j → j < k → k < m → z_tP F L i j k) ∨ (x = 0 ∧ ∃ i j k, i < j ∧ j < k ∧ k < m ∧ ¬ z_tP F L i j k)
def z_yW3 (a b c d : Int32) : Int32 := ((a &&& b) &&& (c ||| d)) ||| ((a ||| b) &&& (c &&& d))
def z_yW2 (a b c d : Int32) : Int32 := ((a &&& b) ||| (c &&& d)) ||| ((a ||| b) &&& (c ||| d))
def z_fP (F : Nat → Int32) (q m i j k l : Nat) : Prop := ∀ A : Int32, A.toInt = ((z_po q : Nat) : Int) - 1 → ∃ t, t < m ∧ F t &&& (z_yW3 (F i) (F j) (F k) (F l) ||| (A &&& (z_yW2 (F i) (F j) (F k) (F l) ^^^ ((-1) : Int32)))) = z_yW3 (F i) (F j) (F k) (F l)
def z_foQ (F : Nat → Int32) (q m : Nat) (x : Int) : Prop := (x = 1 ∧ ∀ i j k l, i < j → j < k → k < l → l < m → z_fP F q m i j k l) ∨ (x = 0 ∧ ∃ i j k l, i < j ∧ j < k ∧ k < l ∧ l < m ∧ ¬ z_fP F q m i j k l)
section ZFW
variable {F : Nat → Int32} {L : Nat → Int64}
theorem z_smS {y no v o a b b2 : Int32} (h : ∀ i : Nat, (i : Int) < b.toInt → F i &&& (y ||| no) ≠ y) (b0 : 0 ≤ b.toInt) (e : F b.toNatClampNeg = v) (ho : o = y ||| no) (ha : a = v &&& o) (hn : a.toInt ≠ y.toInt) (hb : b2.toInt = b.toInt + 1) : ∀ i : Nat, (i : Int) < b2.toInt → F i &&& (y ||| no) ≠ y := fun i hi he => by
  by_cases c : (i : Int) < b.toInt
  · exact h i c he
  · have ei : b.toNatClampNeg = i := by
      show b.toInt.toNat = i
      omega
    rw [ei] at e
    apply hn
    rw [ha, ho, ← e, he]
theorem z_smE {y no v o a b : Int32} {n : Int} (b0 : 0 ≤ b.toInt) (hb : b.toInt < n) (e : F b.toNatClampNeg = v) (ho : o = y ||| no) (ha : a = v &&& o) (hn : a.toInt = y.toInt) : ∃ i : Nat, (i : Int) < n ∧ F i &&& (y ||| no) = y := by
  refine ⟨b.toNatClampNeg, ?_, ?_⟩
  · show ((b.toInt.toNat : Nat) : Int) < n
    omega
  · rw [e, ← ho, ← ha]
    exact Int32.toInt_inj.mp hn
theorem z_mE {a b v w n : Int32} (hn : n = v &&& w) (hv : F a.toNatClampNeg = v) (hw : F b.toNatClampNeg = w) : n = F a.toInt.toNat &&& F b.toInt.toNat := by
  have h1 : F a.toInt.toNat = v := hv
  have h2 : F b.toInt.toNat = w := hw
  rw [hn, h1, h2]
theorem z_mOo {a b v w n : Int32} (hn : n = v ||| w) (hv : F a.toNatClampNeg = v) (hw : F b.toNatClampNeg = w) : n = F a.toInt.toNat ||| F b.toInt.toNat := by
  have h1 : F a.toInt.toNat = v := hv
  have h2 : F b.toInt.toNat = w := hw
  rw [hn, h1, h2]
theorem z_mjE {i j : Nat} {k m o v r s : Int32} (hr : r = o &&& v) (hs : s = m ||| r) (hA : m = F i &&& F j) (hO : o = F i ||| F j) (hk : F k.toNatClampNeg = v) : s = z_mjI (F i) (F j) (F k.toInt.toNat) := by
  have e : F k.toInt.toNat = v := hk
  rw [hs, hr, hA, hO, e]
  rfl
theorem z_tpB {s r k : Int32} {w us la : Int64} (h : L r.toNatClampNeg = w) (h0 : 0 ≤ s.toInt) (hr : r.toInt = s.toInt / 64) (hk : k = s &&& 63) (hu : us = (w.toUInt64 >>> (k.toInt64.toUInt64 &&& Int64.toUInt64 63)).toInt64) (ha : la = us &&& 1) : la.toInt = 0 ↔ ¬ (L (s.toInt.toNat / 64)).toBitVec.getLsbD (s.toInt.toNat % 64) = true := by
  have hk2 : k.toInt = ((s.toInt.toNat % 64 : Nat) : Int) := by
    rw [z_and63n hk h0]
    omega
  have e : r.toNatClampNeg = s.toInt.toNat / 64 := by
    show r.toInt.toNat = _
    omega
  rw [← e, h]
  exact z_ush hk2 (Nat.mod_lt _ (by decide)) hu ha
theorem z_foE {q i j : Nat} {k l m1 j1 m2 j2 u1 u2 y3 v1 v2 y2 nn no A : Int32} (hq : A.toInt = ((z_po q : Nat) : Int) - 1) (hA : m1 = F i &&& F j) (hO : j1 = F i ||| F j) (hm : m2 = F k.toInt.toNat &&& F l.toInt.toNat) (hj : j2 = F k.toInt.toNat ||| F l.toInt.toNat) (h1 : u1 = m1 &&& j2) (h2 : u2 = j1 &&& m2) (h3 : y3 = u1 ||| u2) (h4 : v1 = m1 ||| m2) (h5 : v2 = j1 &&& j2) (h6 : y2 = v1 ||| v2) (h7 : nn = y2 ^^^ ((-1) : Int32)) (h8 : no = A &&& nn) : y3 = z_yW3 (F i) (F j) (F k.toInt.toNat) (F l.toInt.toNat) ∧ no = A &&& (z_yW2 (F i) (F j) (F k.toInt.toNat) (F l.toInt.toNat) ^^^ ((-1) : Int32)) ∧ A.toInt = ((z_po q : Nat) : Int) - 1 := by
  refine ⟨?_, ?_, hq⟩
  · rw [h3, h1, h2, hA, hO, hm, hj]
    rfl
  · rw [h8, h7, h6, h4, h5, hA, hO, hm, hj]
    rfl
theorem z_foY {q i j k l : Nat} {n x : Int} {y3 no A : Int32} (h : y3 = z_yW3 (F i) (F j) (F k) (F l) ∧ no = A &&& (z_yW2 (F i) (F j) (F k) (F l) ^^^ ((-1) : Int32)) ∧ A.toInt = ((z_po q : Nat) : Int) - 1) (e : z_smF F n y3 no x) (hx : x ≠ 0) : z_fP F q n.toNat i j k l := fun A2 hA2 => by
  obtain ⟨h1, h2, h3⟩ := h
  have eA : A2 = A := Int32.toInt_inj.mp (hA2.trans h3.symm)
  rcases e with ⟨_, t, ht, e⟩ | ⟨e, _⟩
  · rw [h1, h2] at e
    rw [eA]
    exact ⟨t, by omega, e⟩
  · exact absurd e hx
theorem z_foN {q i j k l : Nat} {n x : Int} {y3 no A : Int32} (h : y3 = z_yW3 (F i) (F j) (F k) (F l) ∧ no = A &&& (z_yW2 (F i) (F j) (F k) (F l) ^^^ ((-1) : Int32)) ∧ A.toInt = ((z_po q : Nat) : Int) - 1) (e : z_smF F n y3 no x) (hx : x = 0) : ¬ z_fP F q n.toNat i j k l := fun hp => by
  obtain ⟨h1, h2, h3⟩ := h
  obtain ⟨t, ht, e2⟩ := hp A h3
  rcases e with ⟨e, _⟩ | ⟨_, e⟩
  · omega
  · exact e t (by omega) (by rw [h1, h2]; exact e2)
end ZFW
