/-! the reference's agendas: what stands of one -/
section ZY5
variable {bb : Nat → Int} {nn k : Nat} {nu : Int → Int} {pr en t a S : Nat} {ts : Nat → Nat} {M M0 M1 M2 M3 : zH}
/-- one agenda's questions, letters, premises, ends and ties -/
def y_AH (M : zH) (a k : Nat) (nu : Int → Int) (pr en t : Nat) (ts : Nat → Nat) : Prop := (z_Ar M 24 a).toInt = (k : Int) ∧ (∀ q : Nat, q < k → nu (z_Ar M 23 (10 * a + q)).toInt = (q : Int)) ∧ (∀ c, 0 ≤ nu c → ∃ q : Nat, q < k ∧ (z_Ar M 23 (10 * a + q)).toInt = c) ∧ (∀ c, c < 97 ∨ 107 ≤ c → nu c < 0) ∧ (z_Ar M 27 a).toInt = (pr : Int) ∧ (z_Ar M 28 a).toInt = (en : Int) ∧ (z_Ar M 25 a).toInt = (t : Int) ∧ t ≤ 8 ∧ ∀ i : Nat, i < t → (z_Ar M 26 (8 * a + i)).toInt = (ts i : Int)
def y_AG (M : zH) (a : Nat) (bb : Nat → Int) (nn k : Nat) (nu : Int → Int) (pr en t : Nat) (ts : Nat → Nat) : Prop := ((z_Ar M 22 a).toInt = (nn : Int) ∧ nn ≤ 160 ∧ ∀ j, j < nn → bb j = (z_Ar M 21 (160 * a + j)).toInt) ∧ y_AH M a k nu pr en t ts
theorem y_AH.kp (h : y_AH M a k nu pr en t ts) (e : z_Ar M1 23 = z_Ar M 23 ∧ z_Ar M1 24 = z_Ar M 24 ∧ z_Ar M1 25 = z_Ar M 25 ∧ z_Ar M1 26 = z_Ar M 26 ∧ z_Ar M1 27 = z_Ar M 27 ∧ z_Ar M1 28 = z_Ar M 28) : y_AH M1 a k nu pr en t ts := by
  obtain ⟨e1, e2, e3, e4, e5, e6⟩ := e
  unfold y_AH
  rw [e1, e2, e3, e4, e5, e6]
  exact h
theorem y_AG.kp (h : y_AG M a bb nn k nu pr en t ts) (e21 : z_Ar M1 21 = z_Ar M 21) (e22 : z_Ar M1 22 = z_Ar M 22) (e : z_Ar M1 23 = z_Ar M 23 ∧ z_Ar M1 24 = z_Ar M 24 ∧ z_Ar M1 25 = z_Ar M 25 ∧ z_Ar M1 26 = z_Ar M 26 ∧ z_Ar M1 27 = z_Ar M 27 ∧ z_Ar M1 28 = z_Ar M 28) : y_AG M1 a bb nn k nu pr en t ts := by
  refine ⟨?_, h.2.kp e⟩
  rw [e21, e22]
  exact h.1
theorem y_AH.mk (hT : y_TR M bb nn nu S) (hS : y_st M pr en t ts) (hk : (z_Ar M 24 (y_rd M)).toInt = (k : Int)) (ha : y_rd M = a) : y_AH M a k nu pr en t ts := by
  obtain ⟨h1, h2, h3, h4, h5, h6, h7⟩ := hT
  obtain ⟨s1, s2, s3, s4, s5, s6, s7⟩ := hS
  subst ha
  refine ⟨hk, fun q hq => h4 q (by omega), fun c hc => ?_, h6, s1, s2, s3, s4, s7⟩
  obtain ⟨q, q1, q2⟩ := h5 c hc
  exact ⟨q, by omega, q2⟩
/-- one of its ties is read again -/
theorem y_AG.tr {p1 z e s : Int32} (h : y_AG M a bb nn k nu pr en t ts) (hp : p1.toInt.toNat = a) (f22 : z_F M1 19 22 = some (.int p1)) (f23 : z_F M1 19 23 = some (.int z)) (hz : z.toInt = 0) (f25 : z_F M1 19 25 = some (.int e)) (he : z_Ar M 22 p1.toNatClampNeg = e) (f28 : z_F M1 19 28 = some (.int s)) (hs : 0 ≤ s.toInt) (e21 : z_Ar M1 21 = z_Ar M 21) (e23 : z_Ar M1 23 = z_Ar M 23) (e24 : z_Ar M1 24 = z_Ar M 24) : y_TR M1 bb nn nu s.toInt.toNat := by
  obtain ⟨⟨a1, a2, a3⟩, b1, b2, b3, b4, b5⟩ := h
  have hrd : y_rd M1 = a := by unfold y_rd; rw [z_Fv.of f22]; exact hp
  have hpn : p1.toNatClampNeg = a := hp
  rw [hpn] at he
  refine ⟨by rw [z_Fv.of f25, ← he]; exact a1, a2, fun j hj => ?_, fun q hq => ?_, fun c hc => ?_, b4, by rw [z_Fv.of f28]; omega⟩
  · rw [z_Fv.of f23, if_pos hz, hrd, e21]
    exact a3 j hj
  · rw [hrd, e24, b1] at hq
    rw [hrd, e23]
    exact b2 q (by omega)
  · obtain ⟨q, q1, q2⟩ := b3 c hc
    exact ⟨q, by rw [hrd, e24, b1]; omega, by rw [hrd, e23]; exact q2⟩
def y_TI (bb : Nat → Int) (nn : Nat) (nu : Int → Int) (t : Nat) (ts : Nat → Nat) (i : Nat) : Prop := i < t ∧ ∀ i, i < t → z_ti bb nn (z_one bb nn nu 6) (ts i) ≠ none ∧ ts i ≤ nn
def y_KP (bb : Nat → Int) (nn : Nat) (nu : Int → Int) (p s : Nat) (x : Int) : Prop := x = (z_tv bb nn nu p s : Int) ∧ z_tv bb nn nu p s ≤ 1
theorem y_kpP {x : Int} {f o at_ ix : Int32} {i : Nat} (hK : y_AG M0 a bb nn k nu pr en t ts) (hi : y_TI bb nn nu t ts i) (hf : z_F M 19 26 = some (.int f)) (hf0 : f.toInt < 0) (ho : z_F M 19 27 = some (.int o)) (o0 : o.toInt = 0) (ha : z_F M 19 24 = some (.int at_)) (hix : z_Ar M0 26 ix.toNatClampNeg = at_) (ei : ix.toInt = ((8 * a + i : Nat) : Int)) (hC : y_PC nn M M1 (z_ti bb nn (z_one bb nn nu (6 - (y_op M).toNat)) (y_at M)) (fun f => y_bv x f S)) : y_KP bb nn nu (ts i) S x := by
  have ein : ix.toNatClampNeg = 8 * a + i := by
    show ix.toInt.toNat = _
    omega
  have e1 := hK.2.2.2.2.2.2.2.2.2 i hi.1
  rw [← ein, hix] at e1
  have eat : y_at M = ts i := by rw [y_atF ha]; omega
  have eop : y_op M = 0 := by rw [y_opF ho]; exact o0
  have h2 := hi.2 i hi.1
  have e6 : 6 - (y_op M).toNat = 6 := by rw [eop]; rfl
  rw [e6, eat] at hC
  rcases hC.2 (y_okY hf hf0) (by omega) (by omega) (by omega) with ⟨c1, _⟩ | ⟨q, g, c1, c2, c3, c4, c5, c6⟩
  · exact absurd c1 h2.1
  · unfold y_KP z_tv
    rw [c1]
    exact ⟨c5, c6⟩
/-- which ties a set breaks -/
def z_brk (bb : Nat → Int) (nn : Nat) (nu : Int → Int) (ts : Nat → Nat) : Nat → Nat → Nat
  | 0, _ => 0
  | t + 1, s => z_brk bb nn nu ts t s + (if z_tv bb nn nu (ts t) s = 1 then 0 else 2 ^ t)
theorem z_brk_lt : ∀ (t s : Nat), z_brk bb nn nu ts t s < 2 ^ t := by
  intro t
  induction t with
  | zero => intro s; exact Nat.zero_lt_one
  | succ t ih =>
    intro s
    have h := ih s
    have e : 2 ^ (t + 1) = 2 ^ t + 2 ^ t := by rw [Nat.pow_succ]; omega
    show z_brk bb nn nu ts t s + (if z_tv bb nn nu (ts t) s = 1 then 0 else 2 ^ t) < 2 ^ (t + 1)
    by_cases c : z_tv bb nn nu (ts t) s = 1
    · rw [if_pos c]; omega
    · rw [if_neg c]; omega
theorem z_brk_0 : ∀ (t s : Nat), z_brk bb nn nu ts t s = 0 ↔ ∀ i, i < t → z_tv bb nn nu (ts i) s = 1 := by
  intro t
  induction t with
  | zero => intro s; exact ⟨fun _ i hi => absurd hi (Nat.not_lt_zero i), fun _ => rfl⟩
  | succ t ih =>
    intro s
    have hp : 0 < 2 ^ t := Nat.pow_pos (by decide)
    have e : z_brk bb nn nu ts (t + 1) s = z_brk bb nn nu ts t s + (if z_tv bb nn nu (ts t) s = 1 then 0 else 2 ^ t) := rfl
    rw [e]
    by_cases c : z_tv bb nn nu (ts t) s = 1
    · rw [if_pos c]
      refine ⟨fun h i hi => ?_, fun h => (ih s).mpr (fun i hi => h i (by omega))⟩
      by_cases e2 : i = t
      · rw [e2]; exact c
      · exact (ih s).mp h i (by omega)
    · rw [if_neg c]
      refine ⟨fun h => by omega, fun h => absurd (h t (Nat.lt_succ_self t)) c⟩
theorem z_lc_le (B : Nat → Nat) : ∀ n, z_lc B n ≤ n := by
  intro n
  induction n with
  | zero => exact Nat.le_refl _
  | succ n ih =>
    show z_lc B n + (if B n = 0 then 1 else 0) ≤ n + 1
    by_cases c : B n = 0
    · rw [if_pos c]; omega
    · rw [if_neg c]; omega
theorem z_lc_mono (B : Nat → Nat) : ∀ n m, n ≤ m → z_lc B n ≤ z_lc B m := by
  intro n m h
  induction m with
  | zero => rw [Nat.le_zero.mp h]; exact Nat.le_refl _
  | succ m ih =>
    by_cases e : n = m + 1
    · rw [e]; exact Nat.le_refl _
    · have := ih (by omega)
      show z_lc B n ≤ z_lc B m + (if B m = 0 then 1 else 0)
      omega
theorem z_lc_0 (B : Nat → Nat) : ∀ n, z_lc B n = 0 ↔ ∀ s, s < n → B s ≠ 0 := by
  intro n
  induction n with
  | zero => exact ⟨fun _ s hs => absurd hs (Nat.not_lt_zero s), fun _ => rfl⟩
  | succ n ih =>
    have e : z_lc B (n + 1) = z_lc B n + (if B n = 0 then 1 else 0) := rfl
    rw [e]
    by_cases c : B n = 0
    · rw [if_pos c]
      exact ⟨fun h => by omega, fun h => absurd c (h n (Nat.lt_succ_self n))⟩
    · rw [if_neg c]
      refine ⟨fun h s hs => ?_, fun h => by rw [ih.mpr (fun s hs => h s (by omega))]⟩
      by_cases e2 : s = n
      · rw [e2]; exact c
      · exact ih.mp h s (by omega)
theorem z_lc_lt (B : Nat → Nat) {s n : Nat} (h : s < n) (hB : B s = 0) : z_lc B s < z_lc B n := by
  have h1 := z_lc_mono B (s + 1) n h
  have e : z_lc B (s + 1) = z_lc B s + (if B s = 0 then 1 else 0) := rfl
  rw [if_pos hB] at e
  omega
theorem z_lawful_lc : z_lawful bb nn nu k t ts ↔ z_lc (z_brk bb nn nu ts t) (2 ^ k) ≠ 0 := by
  refine ⟨fun ⟨s, h1, h2⟩ h => (z_lc_0 _ _).mp h s h1 ((z_brk_0 t s).mpr h2), fun h => ?_⟩
  by_cases c : z_lawful bb nn nu k t ts
  · exact c
  · refine absurd ((z_lc_0 _ _).mpr (fun s hs h0 => c ⟨s, hs, (z_brk_0 t s).mp h0⟩)) h
theorem z_orT : ∀ b, b < 8 → ∀ m, m < 256 → m < 2 ^ b → m ||| 2 ^ b = m + 2 ^ b := by decide +kernel
theorem z_pwT : ∀ b, b < 11 → 2 ^ b ≤ 1024 := by decide +kernel
theorem z_pwT8 : ∀ b, b < 9 → 2 ^ b ≤ 256 := by decide +kernel
theorem z_shk {q c : Int32} (hc : c = (1 : Int32) <<< (q &&& 31)) (q0 : 0 ≤ q.toInt ∧ q.toInt ≤ 10) : c.toInt = ((2 ^ q.toInt.toNat : Nat) : Int) ∧ c.toInt ≤ 1024 := by
  have h := z_pwT q.toInt.toNat (by omega)
  have e : c.toInt = 1 * ((2 ^ q.toInt.toNat : Nat) : Int) := by
    rw [hc]
    exact z_pShl q.toInt.toNat rfl (by omega) (by omega) rfl (by decide) rfl (by omega)
  generalize (2 : Nat) ^ q.toInt.toNat = P at *
  exact ⟨by omega, by omega⟩
theorem z_orS {m q c e : Int32} {B : Nat} (hc : c = (1 : Int32) <<< (q &&& 31)) (he : e = m ||| c) (q0 : 0 ≤ q.toInt ∧ q.toInt < 8) (hm : m.toInt = (B : Int)) (hB : B < 2 ^ q.toInt.toNat) : e.toInt = ((B + 2 ^ q.toInt.toNat : Nat) : Int) := by
  have h8 := z_pwT8 q.toInt.toNat (by omega)
  have h1 := z_orT q.toInt.toNat (by omega) B (by omega) hB
  have hc1 := (z_shk hc ⟨q0.1, by omega⟩).1
  have e8 : 2 ^ (q.toInt.toNat + 1) ≤ 256 := z_pwT8 _ (by omega)
  have e9 : 2 ^ (q.toInt.toNat + 1) = 2 ^ q.toInt.toNat + 2 ^ q.toInt.toNat := by rw [Nat.pow_succ]; omega
  rw [e9] at e8
  clear e9
  generalize (2 : Nat) ^ q.toInt.toNat = P at *
  have ecn := z_nn (x := c) (by omega)
  have emn := z_nn (x := m) (by omega)
  have ec : c.toBitVec.toNat = P := by omega
  have em : m.toBitVec.toNat = B := by omega
  have ee : e.toBitVec.toNat = B + P := by
    rw [he, Int32.toBitVec_or, BitVec.toNat_or, ec, em, h1]
  have e4 : e.toInt = e.toBitVec.toInt := rfl
  rw [e4, BitVec.toInt_eq_toNat_cond, ee, if_pos (by omega)]
/-- the sets gone through so far -/
def y_LW (M : zH) (a : Nat) (bb : Nat → Int) (nn k : Nat) (nu : Int → Int) (pr en t : Nat) (ts : Nat → Nat) (n : Nat) : Prop := y_AG M a bb nn k nu pr en t ts ∧ z_wh bb nn = some (k, nu, pr, en, t, ts) ∧ n ≤ 2 ^ k ∧ (∀ s, s < n → (z_Ar M 29 (1024 * a + s)).toInt = (z_brk bb nn nu ts t s : Int)) ∧ (z_Ar M 31 a).toInt = (z_lc (z_brk bb nn nu ts t) n : Int) ∧ ∀ s, s < n → z_brk bb nn nu ts t s = 0 → (z_Ar M 30 (1024 * a + z_lc (z_brk bb nn nu ts t) s)).toInt = (s : Int)
def y_LB (M : zH) (a : Nat) (bb : Nat → Int) (nn k : Nat) (nu : Int → Int) (pr en t : Nat) (ts : Nat → Nat) (n : Nat) (m i : Int) : Prop := y_LW M a bb nn k nu pr en t ts n ∧ n < 2 ^ k ∧ 0 ≤ i ∧ i ≤ (t : Int) ∧ m = (z_brk bb nn nu ts i.toNat n : Int)
theorem y_LW.kp {n : Nat} (h : y_LW M a bb nn k nu pr en t ts n) (e21 : z_Ar M1 21 = z_Ar M 21) (e22 : z_Ar M1 22 = z_Ar M 22) (e : z_Ar M1 23 = z_Ar M 23 ∧ z_Ar M1 24 = z_Ar M 24 ∧ z_Ar M1 25 = z_Ar M 25 ∧ z_Ar M1 26 = z_Ar M 26 ∧ z_Ar M1 27 = z_Ar M 27 ∧ z_Ar M1 28 = z_Ar M 28) (e29 : z_Ar M1 29 = z_Ar M 29) (e30 : z_Ar M1 30 = z_Ar M 30) (e31 : z_Ar M1 31 = z_Ar M 31) : y_LW M1 a bb nn k nu pr en t ts n := by
  obtain ⟨h1, h2, h3, h4, h5, h6⟩ := h
  refine ⟨h1.kp e21 e22 e, h2, h3, ?_, ?_, ?_⟩
  · rw [e29]; exact h4
  · rw [e31]; exact h5
  · rw [e30]; exact h6
/-- a set's ties are gone through from the first -/
theorem y_LB0 {c k1 a1 : Int32} {n : Int} {m i : Int} (h : y_LW M a bb nn k nu pr en t ts n.toNat) (hn : 0 ≤ n) (ha : a1.toInt.toNat = a) (hk : z_Ar M 24 a1.toNatClampNeg = k1) (hc : c = (1 : Int32) <<< (k1 &&& 31)) (k10 : 0 ≤ k1.toInt ∧ k1.toInt ≤ 10) (hl : n < c.toInt) (hm : m = 0) (hi : i = 0) : y_LB M a bb nn k nu pr en t ts n.toNat m i := by
  have e1 : a1.toNatClampNeg = a := ha
  rw [e1] at hk
  have e2 := h.1.2.1
  rw [hk] at e2
  have e3 := (z_shk hc k10).1
  have e4 : k1.toInt.toNat = k := by omega
  rw [e4] at e3
  subst hm hi
  exact ⟨h, by omega, Int.le_refl _, Int.natCast_nonneg t, rfl⟩
theorem y_LBt {n : Nat} {m i : Int} {a1 v : Int32} (h : y_LB M a bb nn k nu pr en t ts n m i) (ha : a1.toInt.toNat = a) (hv : z_Ar M 25 a1.toNatClampNeg = v) : v.toInt = (t : Int) ∧ t ≤ 8 := by
  have e1 : a1.toNatClampNeg = a := ha
  rw [e1] at hv
  have e2 := h.1.1.2.2.2.2.2.2.2.1
  rw [hv] at e2
  exact ⟨e2, h.1.1.2.2.2.2.2.2.2.2.1⟩
theorem z_or0 {m e : Int32} (he : e = m ||| 0) : e.toInt = m.toInt := by
  rw [he]
  exact congrArg Int32.toInt (by simp)
/-- one more tie -/
theorem y_LBk {n : Nat} {m m2 i i2 x : Int} (h : y_LB M a bb nn k nu pr en t ts n m i) (hx : y_KP bb nn nu (ts i.toNat) n x) (x1 : x ≠ 0) (hi : i2 = i + 1) (hil : i < (t : Int)) (hm : m2 = m) (hM : y_LW M1 a bb nn k nu pr en t ts n) : y_LB M1 a bb nn k nu pr en t ts n m2 i2 := by
  obtain ⟨h1, h2, h3, h4, h5⟩ := h
  subst hi hm
  have e : (i + 1).toNat = i.toNat + 1 := by omega
  have ex : z_tv bb nn nu (ts i.toNat) n = 1 := by have := hx.1; have := hx.2; omega
  refine ⟨hM, h2, by omega, by omega, ?_⟩
  rw [e]
  show _ = ((z_brk bb nn nu ts i.toNat n + (if z_tv bb nn nu (ts i.toNat) n = 1 then 0 else 2 ^ i.toNat) : Nat) : Int)
  rw [if_pos ex]
  exact h5
theorem y_LBb {n : Nat} {m q c e : Int32} {i2 x : Int} (h : y_LB M a bb nn k nu pr en t ts n m.toInt q.toInt) (hx : y_KP bb nn nu (ts q.toInt.toNat) n x) (x0 : x = 0) (hi : i2 = q.toInt + 1) (hil : q.toInt < (t : Int)) (ht : t ≤ 8) (hc : c = (1 : Int32) <<< (q &&& 31)) (he : e = m ||| c) (hM : y_LW M1 a bb nn k nu pr en t ts n) : y_LB M1 a bb nn k nu pr en t ts n e.toInt i2 := by
  obtain ⟨h1, h2, h3, h4, h5⟩ := h
  subst hi
  have e1 : (q.toInt + 1).toNat = q.toInt.toNat + 1 := by omega
  have ex : ¬ (z_tv bb nn nu (ts q.toInt.toNat) n = 1) := by have := hx.1; omega
  refine ⟨hM, h2, by omega, by omega, ?_⟩
  rw [e1]
  show _ = ((z_brk bb nn nu ts q.toInt.toNat n + (if z_tv bb nn nu (ts q.toInt.toNat) n = 1 then 0 else 2 ^ q.toInt.toNat) : Nat) : Int)
  rw [if_neg ex]
  exact z_orS hc he ⟨h3, by omega⟩ h5 (z_brk_lt _ _)
/-- the set is done: it breaks some -/
theorem y_LBd {n : Int} {m i : Int} {ix v : Int32} {n2 : Nat} (h : y_LB M a bb nn k nu pr en t ts n.toNat m i) (hn : 0 ≤ n) (hi : (t : Int) ≤ i) (ei : ix.toInt = ((1024 * a : Nat) : Int) + n) (hv : v.toInt = m) (e29 : z_Ar M1 29 = upd (z_Ar M 29) ix.toNatClampNeg v) (e21 : z_Ar M1 21 = z_Ar M 21) (e22 : z_Ar M1 22 = z_Ar M 22) (e : z_Ar M1 23 = z_Ar M 23 ∧ z_Ar M1 24 = z_Ar M 24 ∧ z_Ar M1 25 = z_Ar M 25 ∧ z_Ar M1 26 = z_Ar M 26 ∧ z_Ar M1 27 = z_Ar M 27 ∧ z_Ar M1 28 = z_Ar M 28) (e30 : z_Ar M1 30 = z_Ar M 30) (e31 : z_Ar M1 31 = z_Ar M 31) (hm : m ≠ 0) (hn2 : n2 = (n + 1).toNat) : y_LW M1 a bb nn k nu pr en t ts n2 := by
  obtain ⟨⟨h1, h2, h3, h4, h5, h6⟩, g2, g3, g4, g5⟩ := h
  subst hn2
  have en1 : (n + 1).toNat = n.toNat + 1 := by omega
  have eit : i.toNat = t := by omega
  rw [eit] at g5
  have eix : ix.toNatClampNeg = 1024 * a + n.toNat := by
    show ix.toInt.toNat = _
    omega
  have hb : z_brk bb nn nu ts t n.toNat ≠ 0 := by omega
  have elc : z_lc (z_brk bb nn nu ts t) (n.toNat + 1) = z_lc (z_brk bb nn nu ts t) n.toNat := by
    show z_lc _ n.toNat + (if z_brk bb nn nu ts t n.toNat = 0 then 1 else 0) = _
    rw [if_neg hb]
    rfl
  rw [en1]
  refine ⟨h1.kp e21 e22 e, h2, g2, fun s hs => ?_, by rw [e31, elc]; exact h5, fun s hs h0 => ?_⟩
  · rw [e29, eix]
    show (if 1024 * a + s = 1024 * a + n.toNat then v else z_Ar M 29 (1024 * a + s)).toInt = _
    by_cases c : s = n.toNat
    · rw [if_pos (by omega), hv, g5, c]
    · rw [if_neg (by omega)]
      exact h4 s (by omega)
  · rw [e30]
    by_cases c : s = n.toNat
    · rw [c] at h0
      exact absurd h0 hb
    · exact h6 s (by omega) h0
/-- the set is done: it breaks none -/
theorem y_LBl {n : Int} {m i : Int} {ix iy iz v w l l2 : Int32} {n2 : Nat} (h : y_LB M a bb nn k nu pr en t ts n.toNat m i) (hn : 0 ≤ n) (hi : (t : Int) ≤ i) (ei : ix.toInt = ((1024 * a : Nat) : Int) + n) (hv : v.toInt = m) (e29 : z_Ar M1 29 = upd (z_Ar M 29) ix.toNatClampNeg v) (e21 : z_Ar M1 21 = z_Ar M 21) (e22 : z_Ar M1 22 = z_Ar M 22) (e : z_Ar M1 23 = z_Ar M 23 ∧ z_Ar M1 24 = z_Ar M 24 ∧ z_Ar M1 25 = z_Ar M 25 ∧ z_Ar M1 26 = z_Ar M 26 ∧ z_Ar M1 27 = z_Ar M 27 ∧ z_Ar M1 28 = z_Ar M 28) (hm : m = 0) (hl : z_Ar M 31 iz.toNatClampNeg = l) (ez : iz.toInt.toNat = a) (ey : iy.toInt = ((1024 * a : Nat) : Int) + l.toInt) (hw : w.toInt = n) (e30 : z_Ar M1 30 = upd (z_Ar M 30) iy.toNatClampNeg w) (e31 : z_Ar M1 31 = upd (z_Ar M 31) iz.toNatClampNeg l2) (hl2 : l2.toInt = l.toInt + 1) (hn2 : n2 = (n + 1).toNat) : y_LW M1 a bb nn k nu pr en t ts n2 := by
  obtain ⟨⟨h1, h2, h3, h4, h5, h6⟩, g2, g3, g4, g5⟩ := h
  subst hn2
  have en1 : (n + 1).toNat = n.toNat + 1 := by omega
  have eit : i.toNat = t := by omega
  rw [eit] at g5
  have eix : ix.toNatClampNeg = 1024 * a + n.toNat := by
    show ix.toInt.toNat = _
    omega
  have eiz : iz.toNatClampNeg = a := ez
  rw [eiz] at hl e31
  rw [hl] at h5
  have eiy : iy.toNatClampNeg = 1024 * a + z_lc (z_brk bb nn nu ts t) n.toNat := by
    show iy.toInt.toNat = _
    omega
  have hb : z_brk bb nn nu ts t n.toNat = 0 := by omega
  have elc : z_lc (z_brk bb nn nu ts t) (n.toNat + 1) = z_lc (z_brk bb nn nu ts t) n.toNat + 1 := by
    show z_lc _ n.toNat + (if z_brk bb nn nu ts t n.toNat = 0 then 1 else 0) = _
    rw [if_pos hb]
  rw [en1]
  refine ⟨h1.kp e21 e22 e, h2, g2, fun s hs => ?_, ?_, fun s hs h0 => ?_⟩
  · rw [e29, eix]
    show (if 1024 * a + s = 1024 * a + n.toNat then v else z_Ar M 29 (1024 * a + s)).toInt = _
    by_cases c : s = n.toNat
    · rw [if_pos (by omega), hv, g5, c]
    · rw [if_neg (by omega)]
      exact h4 s (by omega)
  · rw [z_upds e31, elc]
    omega
  · rw [e30, eiy]
    show (if 1024 * a + z_lc (z_brk bb nn nu ts t) s = 1024 * a + z_lc (z_brk bb nn nu ts t) n.toNat then w else z_Ar M 30 (1024 * a + z_lc (z_brk bb nn nu ts t) s)).toInt = _
    by_cases c : s = n.toNat
    · rw [c, if_pos rfl]
      omega
    · have := z_lc_lt (z_brk bb nn nu ts t) (s := s) (n := n.toNat) (by omega) h0
      rw [if_neg (by omega)]
      exact h6 s (by omega) h0
end ZY5
