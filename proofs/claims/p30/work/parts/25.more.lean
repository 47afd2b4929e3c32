/-! more steps, and small facts that the printed rows use -/
section ZX2
variable {d j pc pc1 n : Nat} {segs : List (List (Nat × Instr × Nat))} {i : Instr} {len : Nat} {L : zL} {r : zS} {M M0 : zH} {T : List zK} {rs : List Nat} {K : Option Value → zH → Prop}
theorem z_xM {x y : Int32} {P : Int32 → Prop} (ht : z_dcs j segs = true) (n : Nat) (hk : segs[n]? = some [(pc, .irem, 1)]) (h0 : y.toInt ≠ 0) (kk : ∀ z : Int32, P z → z_ev d j (pc + 1) L (.int z :: r) M K) (hP : P (x - x / y * y)) : z_ev d j pc L (.int y :: .int x :: r) M K :=
  z_e1 (z_dc1 ht hk) rfl rfl (by simp only [z_s1]; rw [if_neg (fun h => h0 (by rw [h]; rfl))]) (kk _ hP)
theorem z_xV {x y : Int32} {P : Int32 → Prop} (ht : z_dcs j segs = true) (n : Nat) (hk : segs[n]? = some [(pc, .idiv, 1)]) (h0 : y.toInt ≠ 0) (kk : ∀ z : Int32, P z → z_ev d j (pc + 1) L (.int z :: r) M K) (hP : P (x / y)) : z_ev d j pc L (.int y :: .int x :: r) M K :=
  z_e1 (z_dc1 ht hk) rfl rfl (by simp only [z_s1]; rw [if_neg (fun h => h0 (by rw [h]; rfl))]) (kk _ hP)
theorem z_xSW {x : Int32} (ht : z_dcs j segs = true) (n t : Nat) (hk : segs[n]? = some [(pc, i, len)]) (h : z_s1 i pc L (.int x :: r) = some (t, L, r)) (kk : z_ev d j t L r M K) : z_ev d j pc L (.int x :: r) M K :=
  z_e1 (z_dc1 ht hk) (z_dc2 ht hk) (z_s1e h) h kk
theorem z_xSC {x k : Int32} (ht : z_dcs j segs = true) (n : Nat) (hx : x = k) (t : Nat) (hk : segs[n]? = some [(pc, i, len)]) (h : z_s1 i pc L (.int k :: r) = some (t, L, r)) (kk : z_ev d j t L r M K) : z_ev d j pc L (.int x :: r) M K := by
  subst hx
  exact z_xSW ht n t hk h kk
theorem z_xSD {dd lo hi : Int} {offs : Array Int} {t : Nat} {x : Int32} (ht : z_dcs j segs = true) (n : Nat) (hk : segs[n]? = some [(pc, .tableswitch dd lo hi offs, len)]) (hg : z_tg pc dd = some t) (hx : x.toInt < lo ∨ hi < x.toInt) (kk : z_ev d j t L r M K) : z_ev d j pc L (.int x :: r) M K :=
  z_etd (z_dc1 ht hk) hg hx kk
theorem z_W.g4 {M : zH} {T : List zK} (h : z_W M T) {a ρ : Nat} {x : Nat × Nat × Int × Int} (ha : T[a]? = some (.inr (ρ, x))) (hr : 3 < ρ ∧ ρ ≠ 99) : 4 ≤ a := by
  have q0 := h.k (k := 0) (κ := .inr (99, 0, 0, 0, 0)) rfl (by decide)
  have q1 := h.k (k := 1) (κ := z_ai 1 102 0 4368) rfl (by decide)
  have q2 := h.k (k := 2) (κ := z_al 2 6) rfl (by decide)
  have q3 := h.k (k := 3) (κ := z_ai 3 8 (-1) 5) rfl (by decide)
  match a, ha with
  | 0, ha => rw [q0] at ha; cases ha; omega
  | 1, ha => rw [q1] at ha; cases ha; omega
  | 2, ha => rw [q2] at ha; cases ha; omega
  | 3, ha => rw [q3] at ha; cases ha; omega
  | n + 4, _ => exact Nat.le_add_left _ _
end ZX2
theorem z_w8 (P : Nat → Prop) (h4 : P 4) (h5 : P 5) (h6 : P 6) (h7 : P 7) (h8 : P 8) (h9 : P 9) (h10 : P 10) (h11 : P 11) {c : Nat} (hc : 4 ≤ c ∧ c ≤ 11) : P c := by
  obtain ⟨l, u⟩ := hc
  match c, l, u with
  | 4, _, _ => exact h4
  | 5, _, _ => exact h5
  | 6, _, _ => exact h6
  | 7, _, _ => exact h7
  | 8, _, _ => exact h8
  | 9, _, _ => exact h9
  | 10, _, _ => exact h10
  | 11, _, _ => exact h11
  | c + 12, _, u => omega
theorem z_wE2 (P : Nat → Prop) {a b c : Nat} (ha : P a) (hb : P b) (hc : c = a ∨ c = b) : P c := by
  rcases hc with rfl | rfl
  · exact ha
  · exact hb
theorem z_wE3 (P : Nat → Prop) {a b c e : Nat} (ha : P a) (hb : P b) (he : P e) (hc : c = a ∨ c = b ∨ c = e) : P c := by
  rcases hc with rfl | rfl | rfl
  · exact ha
  · exact hb
  · exact he
theorem z_nf8 {c k : Nat} (hc : 4 ≤ c ∧ c ≤ 11) (hk : k < 5) : k < z_nf c := z_w8 (fun c => k < z_nf c) hk hk hk hk hk hk hk hk hc
theorem z_fs8 {c k : Nat} (hc : 4 ≤ c ∧ c ≤ 11) : z_fsp c 0 0 0 0 k = z_fsW k := z_w8 (fun c => z_fsp c 0 0 0 0 k = z_fsW k) rfl rfl rfl rfl rfl rfl rfl rfl hc
theorem z_nlx {x y s z p : Int} {A B : Nat} (hp : p = x * y) (hy : y = B) (hz : z = p + s) (hx : 0 ≤ x) (hA : x < A) (hs : 0 ≤ s) (hB : s < B) : 0 ≤ z ∧ z < ((A * B : Nat) : Int) := by
  subst hy hp hz
  have e1 : 0 ≤ x * (B : Int) := Int.mul_nonneg hx (by omega)
  have e2 : (x + 1) * (B : Int) ≤ (A : Int) * (B : Int) := Int.mul_le_mul_of_nonneg_right (by omega) (by omega)
  have e3 : (x + 1) * (B : Int) = x * B + B := by rw [Int.add_mul, Int.one_mul]
  have e4 : ((A * B : Nat) : Int) = (A : Int) * B := by push_cast; rfl
  rw [e4]
  exact ⟨by omega, by omega⟩
theorem z_r0 {M : zH} {a : Nat} {x y : Int32} (h : z_Ar M a x.toNatClampNeg = y) (h0 : 0 ≤ x.toInt) : x.toInt ≠ 0 ∨ (z_Ar M a 0).toInt = y.toInt := by
  by_cases e : x.toInt = 0
  · right
    have : x.toNatClampNeg = 0 := by unfold Int32.toNatClampNeg; omega
    rw [this] at h
    rw [h]
  · exact Or.inl e
theorem z_u0 {M M1 : zH} {a : Nat} {x v : Int32} (h : z_Ar M1 a = upd (z_Ar M a) x.toNatClampNeg v) (h0 : 0 ≤ x.toInt) : (x.toInt = 0 ∧ (z_Ar M1 a 0).toInt = v.toInt) ∨ (x.toInt ≠ 0 ∧ (z_Ar M1 a 0).toInt = (z_Ar M a 0).toInt) := by
  by_cases e : x.toInt = 0
  · left
    have : x.toNatClampNeg = 0 := by unfold Int32.toNatClampNeg; omega
    rw [h, this]
    exact ⟨e, by simp [upd]⟩
  · right
    have : (0 : Nat) ≠ x.toNatClampNeg := by unfold Int32.toNatClampNeg; omega
    rw [h]
    exact ⟨e, by simp [upd, this]⟩
theorem z_W.fi {M : zH} {T : List zK} (h : z_W M T) {a ci q t m J k : Nat} {lo hi : Int} (ha : T[a]? = some (.inl (ci, q, t, m, J))) (hk : k < z_nf ci) (hs : z_fsp ci q t m J k = .inl (lo, hi)) : ∃ x : Int32, z_F M a k = some (.int x) ∧ lo ≤ x.toInt ∧ x.toInt ≤ hi := by
  obtain ⟨v, h1, h2⟩ := h.fld ha hk
  rw [hs] at h2
  match v, h1, h2 with
  | .int x, h1, h2 => exact ⟨x, h1, h2.1, h2.2⟩
/-- what is told of several cells together -/
def z_G1 (M : zH) : Prop := (∀ A : Int32, z_F M 4 3 = some (.int A) → ∀ i : Int32, 0 ≤ i.toInt → i.toInt < A.toInt → z_O M 10 i.toNatClampNeg ≠ none ∧ z_O M 11 i.toNatClampNeg ≠ none) ∧ (∀ A : Int32, z_F M 4 5 = some (.int A) → ∀ i : Int32, 0 ≤ i.toInt → i.toInt < A.toInt → z_O M 12 i.toNatClampNeg ≠ none)
section ZX3
variable {d j pc n : Nat} {segs : List (List (Nat × Instr × Nat))} {L : zL} {r : zS} {M M0 : zH} {T : List zK} {rs : List Nat} {K : Option Value → zH → Prop} {a b : Nat}
theorem z_asx {f : Nat → Option Nat} {x : Int32} {len lo hi : Nat} {y : Option Nat} (hX : z_X T rs M0 M) (ha : T[a]? = some (.inr (17, 3, 6, 0, 0))) (e1 : M[a]? = some (.inl (3, 6, .inr (.inr f)))) (e3 : ∀ i b, i < 6 → f i = some b → z_elk T 3 0 b) (hy : ∀ b, y = some b → z_elk T 3 0 b) (hr : 17 ∈ rs) : z_X T rs M0 (M.set a (.inl (3, 6, .inr (.inr (z_updR f x.toNatClampNeg y))))) ∧ z_ke T [17] M (M.set a (.inl (3, 6, .inr (.inr (z_updR f x.toNatClampNeg y))))) := by
  have hkp := z_kpA (z := (3, 6, .inr (.inr (z_updR f x.toNatClampNeg y)))) ha e1
  refine ⟨⟨hX.1.set ha (Or.inr ⟨rfl, by decide, rfl, fun i b hi hb => ?_⟩), hX.2.trans hkp fun z hz => by rw [List.mem_singleton.mp hz]; exact hr⟩, hkp⟩
  by_cases hi3 : i = x.toNatClampNeg
  · exact hy b (by rw [← hb]; simp [z_updR, hi3])
  · exact e3 i b hi (by rw [← hb]; simp [z_updR, hi3])
theorem z_xasN {x : Int32} (ht : z_dcs j segs = true) (n : Nat) (hk : segs[n]? = some [(pc, .aastore, 1)]) (hX : z_X T rs M0 M) (ha : T[a]? = some (.inr (17, 3, 6, 0, 0))) (_ : (17 : Nat) ≠ 99) (ha4 : 4 ≤ a) (h0 : 0 ≤ x.toInt) (h1 : x.toInt < (6 : Nat)) (_ : True) (hr : 17 ∈ rs) (kk : ∀ M1, z_X T rs M0 M1 → z_ke T [17] M M1 → z_O M1 a = z_updR (z_O M a) x.toNatClampNeg none → z_ev d j (pc + 1) L r M1 K) : z_ev d j pc L (.null :: .int x :: .ref a :: r) M K := by
  obtain ⟨f, e1, e2, e3⟩ := hX.1.aa ha (by decide) (by decide)
  obtain ⟨g1, g2⟩ := z_asx (x := x) (y := none) (len := 0) (lo := 0) (hi := 0) hX ha e1 e3 (fun b hb => by cases hb) hr
  refine z_easN (z_dc1 ht hk) e1 (z_inr h0 h1) ha4 (by decide) (kk _ g1 g2 ?_)
  rw [e2]
  unfold z_O
  rw [z_gs1 e1]
theorem z_xasW {x : Int32} {c : Nat} (ht : z_dcs j segs = true) (n : Nat) (hk : segs[n]? = some [(pc, .aastore, 1)]) (hX : z_X T rs M0 M) (ha : T[a]? = some (.inr (17, 3, 6, 0, 0))) (_ : (17 : Nat) ≠ 99) (h0 : 0 ≤ x.toInt) (h1 : x.toInt < (6 : Nat)) (hb : T[b]? = some (.inl (c, 0, 0, 0, 0))) (hc : 4 ≤ c ∧ c ≤ 11) (hr : 17 ∈ rs) (kk : ∀ M1, z_X T rs M0 M1 → z_ke T [17] M M1 → z_O M1 a = z_updR (z_O M a) x.toNatClampNeg (some b) → z_ev d j (pc + 1) L r M1 K) : z_ev d j pc L (.ref b :: .int x :: .ref a :: r) M K := by
  obtain ⟨f, e1, e2, e3⟩ := hX.1.aa ha (by decide) (by decide)
  obtain ⟨fs, h3, h4, h5, h6, h7⟩ := hX.1.ob hb
  obtain ⟨g1, g2⟩ := z_asx (x := x) (y := some b) (len := 0) (lo := 0) (hi := 0) hX ha e1 e3 (fun b2 hb2 => by cases hb2; exact ⟨c, hc.1, hc.2, hb⟩) hr
  refine z_eas (z_dc1 ht hk) e1 h3 (z_inr h0 h1) (hX.1.g4 ha (by decide)) h7 (Or.inr ⟨rfl, hc⟩) (kk _ g1 g2 ?_)
  rw [e2]
  unfold z_O
  rw [z_gs1 e1]
theorem z_xcp {idx n2 na nb ρ σ : Nat} {tg : List (Nat × Nat)} {sp dp x : Int32} {l1 u1 l2 u2 : Int} (ht : z_dcs j segs = true) (n : Nat) (hk : segs[n]? = some [(pc, .invokestatic idx, 3)]) {oc : Nat} (ho : z_oc j = oc) (hq : (z_find z_cS oc idx).map (·.1) = some (8, n2, tg)) (hw : z_ws r ≤ 8) (hX : z_X T rs M0 M) (ha : T[a]? = some (.inr (ρ, 1, na, l1, u1))) (hb : T[b]? = some (.inr (σ, 1, nb, l2, u2))) (hρ : ρ ≠ 99) (hσ : σ ≠ 99) (ha4 : 4 ≤ a) (hb4 : 4 ≤ b) (s0 : 0 ≤ sp.toInt) (d0 : 0 ≤ dp.toInt) (x0 : 0 ≤ x.toInt) (s1 : sp.toInt + x.toInt ≤ nb) (d1 : dp.toInt + x.toInt ≤ na) (hr : ρ ∈ rs) (kk : ∀ M1, z_X T rs M0 M1 → z_ke T [ρ] M M1 → z_ev d j (pc + 3) L r M1 K) : z_ev d j pc L (.int x :: .int dp :: .ref a :: .int sp :: .ref b :: r) M K := by
  subst ho
  obtain ⟨g, e1⟩ := hX.1.al ha hρ
  obtain ⟨f, e2⟩ := hX.1.al hb hσ
  have hkp := z_kpA (z := (1, na, .inr (.inl (z_cpy f g sp.toNatClampNeg dp.toNatClampNeg x.toNatClampNeg)))) ha e1
  have t1 : ∀ y : Int32, 0 ≤ y.toInt → ¬ y < 0 := fun y hy h => by
    have h2 := Int32.lt_iff_toInt_lt.mp h
    rw [show (0 : Int32).toInt = 0 from rfl] at h2
    omega
  have t2 : ∀ y : Int32, 0 ≤ y.toInt → (y.toNatClampNeg : Int) = y.toInt := fun y hy => by unfold Int32.toNatClampNeg; omega
  have c1 := t2 sp s0
  have c2 := t2 dp d0
  have c3 := t2 x x0
  refine z_ecp (z_dc1 ht hk) hq hw e1 e2 ?_ (kk _ ⟨hX.1.set ha (Or.inr ⟨rfl, rfl, rfl⟩), hX.2.trans hkp fun z hz => by rw [List.mem_singleton.mp hz]; exact hr⟩ hkp)
  rintro (h | h | h | h | h | h | h)
  · exact t1 _ s0 h
  · exact t1 _ d0 h
  · exact t1 _ x0 h
  · omega
  · omega
  · omega
  · omega
end ZX3
theorem z_Gs {M : zH} (h : z_G1 M) {A i : Int32} (hA : z_F M 4 3 = some (.int A)) (h0 : 0 ≤ i.toInt) (h1 : i.toInt < A.toInt) : z_O M 10 i.toNatClampNeg ≠ none := (h.1 A hA i h0 h1).1
theorem z_Gt {M : zH} (h : z_G1 M) {A i : Int32} (hA : z_F M 4 3 = some (.int A)) (h0 : 0 ≤ i.toInt) (h1 : i.toInt < A.toInt) : z_O M 11 i.toNatClampNeg ≠ none := (h.1 A hA i h0 h1).2
theorem z_Gb {M : zH} (h : z_G1 M) {A i : Int32} (hA : z_F M 4 5 = some (.int A)) (h0 : 0 ≤ i.toInt) (h1 : i.toInt < A.toInt) : z_O M 12 i.toNatClampNeg ≠ none := h.2 A hA i h0 h1
theorem z_G1.go {M M1 : zH} {T : List zK} {rs : List Nat} (h : z_G1 M) (hX : z_X T rs M M1) (hr : ¬ 1003 ∈ rs ∧ ¬ 1005 ∈ rs ∧ ¬ 10 ∈ rs ∧ ¬ 11 ∈ rs ∧ ¬ 12 ∈ rs) : z_G1 M1 := by
  obtain ⟨r1, r2, r3, r4, r5⟩ := hr
  have k4 := hX.1.k (k := 4) (κ := .inl (0, 0, 0, 0, 0)) rfl (by decide)
  have k10 := hX.1.k (k := 10) (κ := .inr (10, 2, 8, 9, 0)) rfl (by decide)
  have k11 := hX.1.k (k := 11) (κ := .inr (11, 2, 8, 5, 0)) rfl (by decide)
  have k12 := hX.1.k (k := 12) (κ := .inr (12, 3, 20, 0, 0)) rfl (by decide)
  unfold z_G1
  rw [hX.2.1 4 0 0 0 0 0 3 k4 r1, hX.2.1 4 0 0 0 0 0 5 k4 r2, hX.2.o k10 r3, hX.2.o k11 r4, hX.2.o k12 r5]
  exact h
theorem z_b32 (x : Int32) : -2147483648 ≤ x.toInt ∧ x.toInt ≤ 2147483647 := ⟨Int32.le_toInt x, Int32.toInt_le x⟩
theorem z_upe {M M1 : zH} {a : Nat} {x v : Int32} (h : z_Ar M1 a = upd (z_Ar M a) x.toNatClampNeg v) : z_Ar M1 a x.toNatClampNeg = v := by rw [h]; simp [upd]
theorem z_blp {q : Nat} (h1 : 1 ≤ q) (h2 : q ≤ 10) : ∃ k, k ≤ 10 ∧ 64 * z_bl q = 2 ^ k := by
  match q, h1, h2 with
  | 1, _, _ => exact ⟨6, by decide, by decide⟩
  | 2, _, _ => exact ⟨6, by decide, by decide⟩
  | 3, _, _ => exact ⟨6, by decide, by decide⟩
  | 4, _, _ => exact ⟨6, by decide, by decide⟩
  | 5, _, _ => exact ⟨6, by decide, by decide⟩
  | 6, _, _ => exact ⟨6, by decide, by decide⟩
  | 7, _, _ => exact ⟨7, by decide, by decide⟩
  | 8, _, _ => exact ⟨8, by decide, by decide⟩
  | 9, _, _ => exact ⟨9, by decide, by decide⟩
  | 10, _, _ => exact ⟨10, by decide, by decide⟩
  | q + 11, _, h2 => omega
theorem z_pOrB {x y : Int32} {p s : Int} {q : Nat} (hx : x.toInt = p) (hy : y.toInt = s) (h0 : 0 ≤ p) (h1 : 0 ≤ s) (h2 : p < 64 * ((z_bl q : Nat) : Int)) (h3 : s < 64 * ((z_bl q : Nat) : Int)) (q1 : 1 ≤ q) (q2 : q ≤ 10) : 0 ≤ (x ||| y).toInt ∧ (x ||| y).toInt < 64 * ((z_bl q : Nat) : Int) := by
  obtain ⟨k, hk, e⟩ := z_blp q1 q2
  have e2 : (2 ^ k : Nat) ≤ 2 ^ 10 := Nat.pow_le_pow_right (by decide) hk
  have h := z_pOr (x := x) (y := y) (c := ((2 ^ k : Nat) : Int)) k hx hy h0 h1 rfl (by omega) (by omega) (by omega)
  exact ⟨h.1, by omega⟩
theorem z_pOrA {x y : Int32} {p s : Int} (a : Int) (hx : x.toInt = p) (hy : y.toInt = s) (ha : p = 8 * a) (h0 : 0 ≤ a) (h1 : a ≤ 1000) (h2 : 0 ≤ s) (h3 : s < 8) : (x ||| y).toInt = p + s := by
  subst hx hy
  obtain ⟨a1, a2⟩ := z_nn (x := x) (by omega)
  obtain ⟨b1, b2⟩ := z_nn (x := y) (by omega)
  obtain ⟨n, hn⟩ : ∃ n : Nat, a = n := ⟨a.toNat, by omega⟩
  have e0 : x.toBitVec.toNat = 2 ^ 3 * n := by omega
  have e1 : (x ||| y).toBitVec.toNat = x.toBitVec.toNat ||| y.toBitVec.toNat := by rw [Int32.toBitVec_or, BitVec.toNat_or]
  have e2 : 2 ^ 3 * n ||| y.toBitVec.toNat = 2 ^ 3 * n + y.toBitVec.toNat := (Nat.two_pow_add_eq_or_of_lt (by omega) n).symm
  rw [e0, e2] at e1
  have e3 := z_nb (x := x ||| y) (by omega)
  omega
section ZX4
variable {d j pc n : Nat} {segs : List (List (Nat × Instr × Nat))} {L : zL} {r : zS} {M M0 : zH} {T : List zK} {rs : List Nat} {K : Option Value → zH → Prop} {a b : Nat}
/-- an object that was read there before -/
theorem z_xalv {x : Int32} {ρ tg len : Nat} {lo hi : Int} (ht : z_dcs j segs = true) (n : Nat) (hk : segs[n]? = some [(pc, .aaload, 1)]) (hX : z_X T rs M0 M) (ha : T[a]? = some (.inr (ρ, tg, len, lo, hi))) (hρ : ρ ≠ 99) (htg : 2 ≤ tg) (ha4 : 4 ≤ a) (h0 : 0 ≤ x.toInt) (h1 : x.toInt < len) (hb : z_O M a x.toNatClampNeg = some b) (k1 : z_ev d j (pc + 1) L (.ref b :: r) M K) : z_ev d j pc L (.int x :: .ref a :: r) M K :=
  z_xal ht n hk hX ha hρ htg ha4 h0 h1 (fun c hc _ => by rw [hb] at hc; cases hc; exact k1) (fun hc => by rw [hb] at hc; cases hc)
end ZX4
/-- both benches of an agenda are of that agenda -/
def z_G2 (M : zH) : Prop := ∀ (i : Nat) (b c : Nat), i < 8 → z_O M 10 i = some b → z_O M 11 i = some c → z_F M b 0 = z_F M c 0
theorem z_Gm {M : zH} {T : List zK} (h : z_G2 M) (hW : z_W M T) {i b c q t m q2 t2 m2 J J2 : Nat} (hi : i < 8) (hb : z_O M 10 i = some b) (hc : z_O M 11 i = some c) (kb : T[b]? = some (.inl (3, q, t, m, J))) (kc : T[c]? = some (.inl (3, q2, t2, m2, J2))) : q = q2 ∧ t = t2 ∧ m = m2 := by
  have e := h i b c hi hb hc
  obtain ⟨v, h1, h2⟩ := hW.fld kb (k := 0) (by decide)
  obtain ⟨w, h3, h4⟩ := hW.fld kc (k := 0) (by decide)
  rw [h1, h3] at e
  cases e
  match v, h2, h4 with
  | .ref x, h2, h4 =>
    have e2 : some (Sum.inl (2, q, t, m, 0)) = some (Sum.inl (2, q2, t2, m2, 0)) := (show T[x]? = some (.inl (2, q, t, m, 0)) from h2).symm.trans (show T[x]? = some (.inl (2, q2, t2, m2, 0)) from h4)
    cases e2
    exact ⟨rfl, rfl, rfl⟩
theorem z_G2.go {M M1 : zH} {T : List zK} {rs : List Nat} (h : z_G2 M) (hX : z_X T rs M M1) (hW : z_W M T) (hr : ¬ 1300 ∈ rs ∧ ¬ 10 ∈ rs ∧ ¬ 11 ∈ rs) : z_G2 M1 := by
  obtain ⟨r1, r4, r5⟩ := hr
  have k10 := hX.1.k (k := 10) (κ := .inr (10, 2, 8, 9, 0)) rfl (by decide)
  have k11 := hX.1.k (k := 11) (κ := .inr (11, 2, 8, 5, 0)) rfl (by decide)
  intro i b c hi hb hc
  rw [hX.2.o k10 r4] at hb
  rw [hX.2.o k11 r5] at hc
  obtain ⟨f, g1, g2, g3⟩ := hW.aa k10 (by decide) (by decide)
  obtain ⟨f2, g4, g5, g6⟩ := hW.aa k11 (by decide) (by decide)
  obtain ⟨q, t, m, kb⟩ : ∃ q t m, T[b]? = some (.inl (3, q, t, m, 9)) := g3 i b hi (by rw [← g2]; exact hb)
  obtain ⟨q2, t2, m2, kc⟩ : ∃ q t m, T[c]? = some (.inl (3, q, t, m, 5)) := g6 i c hi (by rw [← g5]; exact hc)
  rw [hX.2.1 b 3 q t m 9 0 kb r1, hX.2.1 c 3 q2 t2 m2 5 0 kc r1]
  exact h i b c hi hb hc
def z_GG (T : List zK) (M : zH) : Prop := z_W M T ∧ z_G1 M ∧ z_G2 M
theorem z_GG.go {M M1 : zH} {T : List zK} {rs : List Nat} (h : z_GG T M) (hX : z_X T rs M M1) (hr : ¬ 1003 ∈ rs ∧ ¬ 1005 ∈ rs ∧ ¬ 10 ∈ rs ∧ ¬ 11 ∈ rs ∧ ¬ 12 ∈ rs ∧ ¬ 1300 ∈ rs) : z_GG T M1 :=
  ⟨hX.1, h.2.1.go hX ⟨hr.1, hr.2.1, hr.2.2.1, hr.2.2.2.1, hr.2.2.2.2.1⟩, h.2.2.go hX h.1 ⟨hr.2.2.2.2.2, hr.2.2.1, hr.2.2.2.1⟩⟩
theorem z_pM6 {x y : Int32} {p q : Int} (hx : x.toInt = p) (hy : y.toInt = q) (h0 : 0 ≤ p) (h1 : p ≤ 215) (h2 : 0 ≤ q) (h3 : q ≤ 6) : 0 ≤ (x * y).toInt ∧ (x * y).toInt ≤ 6 * p := by
  have h := z_pMulB (a := 215) (b := 6) hx hy h0 h1 h2 h3 (c := 1290) (by decide) (by decide)
  have e2 : p * q ≤ p * 6 := Int.mul_le_mul_of_nonneg_left h3 h0
  exact ⟨h.2.1, by omega⟩
theorem z_W.ae {M : zH} {T : List zK} {x : Int32} (h : z_W M T) {a r n : Nat} {lo hi : Int} (ha : T[a]? = some (.inr (r, 0, n, lo, hi))) (hr : r ≠ 99) (h0 : 0 ≤ x.toInt) (h1 : x.toInt < n) : ∃ y : Int32, z_Ar M a x.toNatClampNeg = y ∧ lo ≤ y.toInt ∧ y.toInt ≤ hi := by
  obtain ⟨f, e1, e2, e3⟩ := h.ai ha hr
  have e4 := e3 x.toNatClampNeg (z_cll h1 (by omega))
  exact ⟨_, rfl, by rw [e2]; exact e4.1, by rw [e2]; exact e4.2⟩
theorem z_lsd {d x : Int} : ∀ {l : List (Int × Int)}, (∀ p ∈ l, p.1 ≠ x) → Op.lookupswitch.offset l d x = d
  | [], _ => rfl
  | (a, o) :: r, h => by
    rw [Op.lookupswitch.offset_cons, if_neg (h (a, o) (List.mem_cons_self ..))]
    exact z_lsd fun p hp => h p (List.mem_cons_of_mem _ hp)
theorem z_xSL {d j pc len t : Nat} {segs : List (List (Nat × Instr × Nat))} {L : zL} {r : zS} {M : zH} {K : Option Value → zH → Prop} {dd : Int} {ps : Array (Int × Int)} {x : Int32} (ht : z_dcs j segs = true) (n : Nat) (hk : segs[n]? = some [(pc, .lookupswitch dd ps, len)]) (hs : (ps.toList.zip (ps.toList.drop 1)).all (fun (a, next) => a.1 < next.1) = true) (ho : Op.lookupswitch.offset ps.toList dd x.toInt = dd) (hg : z_tg pc dd = some t) (kk : z_ev d j t L r M K) : z_ev d j pc L (.int x :: r) M K :=
  z_e1 (z_dc1 ht hk) (z_dc2 ht hk) rfl (by simp only [z_s1, ho, hg]; rw [if_pos hs]) kk
/-- no letter of an agenda's questions is 0 -/
def z_GL (M : zH) : Prop := ∀ r q : Nat, r < 8 → q < 10 → (q : Int) < (z_Ar M 24 r).toInt → (z_Ar M 23 (10 * r + q)).toInt ≠ 0
theorem z_GL.go {M M1 : zH} {T : List zK} {rs : List Nat} (h : z_GL M) (hX : z_X T rs M M1) (hr : ¬ 23 ∈ rs ∧ ¬ 24 ∈ rs) : z_GL M1 := by
  have k23 := hX.1.k (k := 23) (κ := z_af 23 80) rfl (by decide)
  have k24 := hX.1.k (k := 24) (κ := z_ai 24 8 0 10) rfl (by decide)
  unfold z_GL
  rw [hX.2.a k23 hr.1, hX.2.a k24 hr.2]
  exact h
theorem z_GLu {M : zH} (h : z_GL M) {r q i w y : Int32} (hw : z_Ar M 24 r.toNatClampNeg = w) (r0 : 0 ≤ r.toInt) (r1 : r.toInt < 8) (q0 : 0 ≤ q.toInt) (q1 : q.toInt < w.toInt ∧ q.toInt < 10) (hi : i.toInt = 10 * r.toInt + q.toInt) (hy : z_Ar M 23 i.toNatClampNeg = y) : y.toInt ≠ 0 := by
  have e1 : (r.toNatClampNeg : Int) = r.toInt := by unfold Int32.toNatClampNeg; omega
  have e2 : (q.toNatClampNeg : Int) = q.toInt := by unfold Int32.toNatClampNeg; omega
  have e3 : i.toNatClampNeg = 10 * r.toNatClampNeg + q.toNatClampNeg := by unfold Int32.toNatClampNeg; omega
  have h1 := h r.toNatClampNeg q.toNatClampNeg (by omega) (by omega) (by rw [hw]; omega)
  rw [← e3, hy] at h1
  exact h1
