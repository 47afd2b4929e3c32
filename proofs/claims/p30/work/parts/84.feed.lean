/-! bytes come: what both sides write -/
def z_byt (v : Int32) (i : Nat) : Int := ((v.toBitVec.toNat / 256 ^ i % 256 : Nat) : Int)
theorem z_bytr (v : Int32) (i : Nat) : 0 ≤ z_byt v i ∧ z_byt v i ≤ 255 := by
  unfold z_byt
  have h := Nat.mod_lt (v.toBitVec.toNat / 256 ^ i) (show 256 > 0 by decide)
  generalize v.toBitVec.toNat / 256 ^ i % 256 = x at *
  exact ⟨by omega, by omega⟩
theorem z_and255 (r : Int32) : (r &&& 255).toInt = ((r.toBitVec.toNat % 256 : Nat) : Int) := by
  have h : (r &&& 255).toBitVec.toNat = r.toBitVec.toNat % 256 := by
    rw [Int32.toBitVec_and, BitVec.toNat_and]
    exact Nat.and_two_pow_sub_one_eq_mod r.toBitVec.toNat 8
  have h2 : (r &&& 255).toInt = ((r &&& 255).toBitVec.toNat : Int) := by
    show (r &&& 255).toBitVec.toInt = _
    exact BitVec.toInt_eq_toNat_of_lt (by rw [h]; omega)
  rw [h2, h]
theorem z_shm0 {r v : Int32} (h : r.toInt = v.toInt / 1) : r.toBitVec.toNat % 256 = v.toBitVec.toNat / 1 % 256 := by
  have hv := v.toBitVec.isLt
  have hr := r.toBitVec.isLt
  have h : r.toBitVec.toInt = v.toBitVec.toInt / 1 := h
  rw [BitVec.toInt_eq_toNat_cond, BitVec.toInt_eq_toNat_cond] at h
  generalize v.toBitVec.toNat = a at *
  generalize r.toBitVec.toNat = b at *
  split at h <;> split at h <;> omega
theorem z_shm1 {r v : Int32} (h : r.toInt = v.toInt / 256) : r.toBitVec.toNat % 256 = v.toBitVec.toNat / 256 % 256 := by
  have hv := v.toBitVec.isLt
  have hr := r.toBitVec.isLt
  have h : r.toBitVec.toInt = v.toBitVec.toInt / 256 := h
  rw [BitVec.toInt_eq_toNat_cond, BitVec.toInt_eq_toNat_cond] at h
  generalize v.toBitVec.toNat = a at *
  generalize r.toBitVec.toNat = b at *
  split at h <;> split at h <;> omega
theorem z_shm2 {r v : Int32} (h : r.toInt = v.toInt / 65536) : r.toBitVec.toNat % 256 = v.toBitVec.toNat / 65536 % 256 := by
  have hv := v.toBitVec.isLt
  have hr := r.toBitVec.isLt
  have h : r.toBitVec.toInt = v.toBitVec.toInt / 65536 := h
  rw [BitVec.toInt_eq_toNat_cond, BitVec.toInt_eq_toNat_cond] at h
  generalize v.toBitVec.toNat = a at *
  generalize r.toBitVec.toNat = b at *
  split at h <;> split at h <;> omega
theorem z_shm3 {r v : Int32} (h : r.toInt = v.toInt / 16777216) : r.toBitVec.toNat % 256 = v.toBitVec.toNat / 16777216 % 256 := by
  have hv := v.toBitVec.isLt
  have hr := r.toBitVec.isLt
  have h : r.toBitVec.toInt = v.toBitVec.toInt / 16777216 := h
  rw [BitVec.toInt_eq_toNat_cond, BitVec.toInt_eq_toNat_cond] at h
  generalize v.toBitVec.toNat = a at *
  generalize r.toBitVec.toNat = b at *
  split at h <;> split at h <;> omega
theorem z_y32 {y : Int32} {k : Nat} (hy : y.toInt = (k : Int)) (hk : k < 32) : y.toBitVec.toNat % 32 = k := by
  have h := z_nn (x := y) (by omega)
  omega
theorem z_bytS {v y r w : Int32} {i : Nat} (hi : i < 4) (hy : y.toInt = 8 * (i : Int)) (hr : r = v >>> (y &&& 31)) (hw : w = r &&& 255) : w.toInt = z_byt v i := by
  rw [hw, z_and255]
  unfold z_byt
  have e : r.toBitVec.toNat % 256 = v.toBitVec.toNat / 256 ^ i % 256 := by
    have hd : i = 0 ∨ i = 1 ∨ i = 2 ∨ i = 3 := by omega
    rcases hd with e0 | e0 | e0 | e0
    · subst e0; exact z_shm0 (by rw [hr]; exact z_pShr 0 rfl (z_y32 (k := 0) (by omega) (by decide)) rfl)
    · subst e0; exact z_shm1 (by rw [hr]; exact z_pShr 8 rfl (z_y32 (k := 8) (by omega) (by decide)) rfl)
    · subst e0; exact z_shm2 (by rw [hr]; exact z_pShr 16 rfl (z_y32 (k := 16) (by omega) (by decide)) rfl)
    · subst e0; exact z_shm3 (by rw [hr]; exact z_pShr 24 rfl (z_y32 (k := 24) (by omega) (by decide)) rfl)
  rw [e]
theorem z_ushr (x : Int32) {k : Int32} {u : UInt32} {c : Nat} (hk : (k.toUInt32 &&& Int32.toUInt32 31) = u) (hc : 2 ^ (u.toNat % 32) = c) : ((x.toUInt32 >>> (k.toUInt32 &&& Int32.toUInt32 31)).toInt32).toBitVec.toNat = x.toBitVec.toNat / c := by
  rw [hk]
  show (x.toUInt32 >>> u).toNat = _
  rw [UInt32.toNat_shiftRight, Nat.shiftRight_eq_div_pow, hc]
  rfl
theorem z_bytU {v y r w : Int32} {i : Nat} (hi : i < 4) (hy : y.toInt = 8 * (i : Int)) (hr : r = (v.toUInt32 >>> (y.toUInt32 &&& Int32.toUInt32 31)).toInt32) (hw : w = r &&& 255) : w.toInt = z_byt v i := by
  rw [hw, z_and255]
  unfold z_byt
  have e : r.toBitVec.toNat = v.toBitVec.toNat / 256 ^ i := by
    rw [hr]
    have hd : i = 0 ∨ i = 1 ∨ i = 2 ∨ i = 3 := by omega
    rcases hd with e0 | e0 | e0 | e0
    · subst e0
      obtain rfl : y = 0 := z_sub (c := 0) (by omega) rfl
      exact z_ushr v (k := 0) rfl (by decide)
    · subst e0
      obtain rfl : y = 8 := z_sub (c := 8) (by omega) rfl
      exact z_ushr v (k := 8) rfl (by decide)
    · subst e0
      obtain rfl : y = 16 := z_sub (c := 16) (by omega) rfl
      exact z_ushr v (k := 16) rfl (by decide)
    · subst e0
      obtain rfl : y = 24 := z_sub (c := 24) (by omega) rfl
      exact z_ushr v (k := 24) rfl (by decide)
  rw [e]
/-- i bytes of v from place l on -/
def z_fed (f g : Nat → Int32) (l i : Int) (v : Int32) : Prop := ∀ j : Nat, (g j).toInt = if l ≤ (j : Int) ∧ (j : Int) < l + i then z_byt v ((j : Int) - l).toNat else (f j).toInt
theorem z_fed0 {f : Nat → Int32} {l : Int} {v : Int32} : z_fed f f l 0 v := fun j => by rw [if_neg (by omega)]
theorem z_fedS {f g g2 : Nat → Int32} {l i i2 : Int} {ix w v : Int32} (h : z_fed f g l i v) (l0 : 0 ≤ l) (i0 : 0 ≤ i) (hg : g2 = upd g ix.toNatClampNeg w) (hix : ix.toInt = l + i) (hw : w.toInt = z_byt v i.toNat) (hi : i2 = i + 1) : z_fed f g2 l i2 v := fun j => by
  subst hi
  have e : ix.toNatClampNeg = (l + i).toNat := by
    show ix.toInt.toNat = _
    rw [hix]
  rw [hg, e]
  show (if j = (l + i).toNat then w else g j).toInt = _
  by_cases c : j = (l + i).toNat
  · have e2 : ((j : Int) - l).toNat = i.toNat := by omega
    rw [if_pos c, if_pos (by omega), hw, e2]
  · rw [if_neg c, h j]
    by_cases c2 : l ≤ (j : Int) ∧ (j : Int) < l + i
    · rw [if_pos c2, if_pos ⟨c2.1, by omega⟩]
    · rw [if_neg c2, if_neg (by omega)]
/-- inside the loop: object o keeps the length, cell ar the bytes -/
def z_fdi (M0 M : zH) (o ar : Nat) (i : Int) (v : Int32) : Prop := z_fed (z_Ar M0 ar) (z_Ar M ar) (z_Fv M0 o 1).toInt i v ∧ (z_Fv M o 1).toInt = (z_Fv M0 o 1).toInt + i ∧ 0 ≤ (z_Fv M0 o 1).toInt ∧ 0 ≤ i
theorem z_fdi0 {M0 : zH} {o ar : Nat} {i : Int} {v x : Int32} (h : z_F M0 o 1 = some (.int x)) (h0 : 0 ≤ x.toInt) (hi : i = 0) : z_fdi M0 M0 o ar i v := by
  subst hi
  exact ⟨z_fed0, by omega, by rw [z_Fv.of h]; exact h0, by decide⟩
theorem z_fdiS {M0 M M1 : zH} {o ar : Nat} {i i2 : Int} {v a a2 w : Int32} (h : z_fdi M0 M o ar i v) (hl : z_F M o 1 = some (.int a)) (e : z_Ar M1 ar = upd (z_Ar M ar) a.toNatClampNeg w) (hw : w.toInt = z_byt v i.toNat) (h1 : z_F M1 o 1 = some (.int a2)) (ha : a2.toInt = a.toInt + 1) (hi : i2 = i + 1) : z_fdi M0 M1 o ar i2 v := by
  obtain ⟨g1, g2, g3, g4⟩ := h
  rw [z_Fv.of hl] at g2
  exact ⟨z_fedS g1 g3 g4 e g2 hw hi, by rw [z_Fv.of h1]; omega, g3, by omega⟩
def z_tkP (M0 M1 : zH) (n x : Int) (v : Int32) : Prop := (x = 0 ∧ M1 = M0 ∧ 160 < (z_Fv M0 5 1).toInt + n) ∨ (x = 1 ∧ (z_Fv M0 5 1).toInt + n ≤ 160 ∧ z_fdi M0 M1 5 6 n v)
theorem z_tkN {M0 : zH} {n x : Int} {v l : Int32} (h : z_F M0 5 1 = some (.int l)) (h2 : 160 < l.toInt + n) (hx : x = 0) : z_tkP M0 M0 n x v := Or.inl ⟨hx, rfl, by rw [z_Fv.of h]; exact h2⟩
theorem z_tkY {M0 M1 : zH} {n i x : Int} {v l : Int32} (h : z_fdi M0 M1 5 6 i v) (hl : z_F M1 5 1 = some (.int l)) (l0 : l.toInt ≤ 160) (hi : i = n) (hx : x = 1) : z_tkP M0 M1 n x v := by
  subst hi
  have e := h.2.1
  rw [z_Fv.of hl] at e
  exact Or.inr ⟨hx, by omega, h⟩
/-- what feed does -/
def z_fdd (M0 M1 : zH) (o ar : Nat) (n x : Int) (v : Int32) : Prop := ((n < 1 ∨ 4 < n) ∧ x = -1 ∧ M1 = M0) ∨ (1 ≤ n ∧ n ≤ 4 ∧ x = -3 ∧ M1 = M0 ∧ 160 < (z_Fv M0 o 1).toInt + n) ∨ (1 ≤ n ∧ n ≤ 4 ∧ (z_Fv M0 o 1).toInt + n ≤ 160 ∧ x = (z_Fv M0 o 1).toInt + n ∧ z_fdi M0 M1 o ar n v)
theorem z_fddB {M0 : zH} {o ar : Nat} {n x : Int} {v : Int32} (h : n < 1 ∨ 4 < n) (hx : x = -1) : z_fdd M0 M0 o ar n x v := Or.inl ⟨h, hx, rfl⟩
theorem z_fddF {M0 : zH} {o ar : Nat} {n x : Int} {v l : Int32} (h : 1 ≤ n ∧ n ≤ 4) (hx : x = -3) (hl : z_F M0 o 1 = some (.int l)) (h2 : 160 < l.toInt + n) : z_fdd M0 M0 o ar n x v := Or.inr (Or.inl ⟨h.1, h.2, hx, rfl, by rw [z_Fv.of hl]; exact h2⟩)
theorem z_fddY {M0 M1 : zH} {o ar : Nat} {n i x : Int} {v l : Int32} (h : z_fdi M0 M1 o ar i v) (hn : 1 ≤ n ∧ n ≤ 4) (hl : z_F M1 o 1 = some (.int l)) (l0 : l.toInt ≤ 160) (hi : i = n) (hx : x = l.toInt) : z_fdd M0 M1 o ar n x v := by
  subst hi
  have e := h.2.1
  rw [z_Fv.of hl] at e
  exact Or.inr (Or.inr ⟨hn.1, hn.2, by omega, by omega, h⟩)
theorem z_fddT {M0 M1 : zH} {n x : Int} {v y : Int32} (h : z_tkP M0 M1 n y.toInt v) (hy : y.toInt = 0) (hn : 1 ≤ n ∧ n ≤ 4) (hx : x = -3) : z_fdd M0 M1 5 6 n x v := by
  rcases h with ⟨_, h2, h3⟩ | ⟨h1, _⟩
  · exact Or.inr (Or.inl ⟨hn.1, hn.2, hx, h2, h3⟩)
  · rw [hy] at h1
    exact absurd h1 (by decide)
theorem z_fddU {M0 M1 : zH} {n x : Int} {v y l : Int32} (h : z_tkP M0 M1 n y.toInt v) (hy : y.toInt ≠ 0) (hn : 1 ≤ n ∧ n ≤ 4) (hl : z_F M1 5 1 = some (.int l)) (hx : x = l.toInt) : z_fdd M0 M1 5 6 n x v := by
  rcases h with ⟨h1, _⟩ | ⟨_, h2, h3⟩
  · exact absurd h1 hy
  · have e := h3.2.1
    rw [z_Fv.of hl] at e
    exact Or.inr (Or.inr ⟨hn.1, hn.2, h2, by omega, h3⟩)
