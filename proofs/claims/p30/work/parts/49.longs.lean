/-! arrays of longs: what is read, what is written -/
def z_Lg (M : zH) (a : Nat) : Nat → Int64 := match M[a]? with
  | some (.inl (_, _, .inr (.inl f))) => f
  | _ => fun _ => 0
theorem z_ke.lg {T : List zK} {rs : List Nat} {M M1 : zH} (h : z_ke T rs M M1) {a r : Nat} {x : Nat × Nat × Int × Int} (ha : T[a]? = some (.inr (r, x))) (hr : ¬ r ∈ rs) : z_Lg M1 a = z_Lg M a := by unfold z_Lg; rw [h.2 a r x ha hr]
theorem z_Lgo {M : zH} {a n : Nat} {f : Nat → Int64} (h : M[a]? = some (.inl (1, n, .inr (.inl f)))) : z_Lg M a = f := by unfold z_Lg; rw [h]
section ZL1
variable {d j pc : Nat} {segs : List (List (Nat × Instr × Nat))} {L : zL} {r : zS} {M M0 : zH} {T : List zK} {rs : List Nat} {K : Option Value → zH → Prop} {a b : Nat}
theorem z_xllv {x : Int32} {ρ len : Nat} {lo hi : Int} (ht : z_dcs j segs = true) (n : Nat) (hk : segs[n]? = some [(pc, .laload, 1)]) (hX : z_X T rs M0 M) (ha : T[a]? = some (.inr (ρ, 1, len, lo, hi))) (hρ : ρ ≠ 99) (h0 : 0 ≤ x.toInt) (h1 : x.toInt < len) (kk : ∀ y : Int64, z_Lg M a x.toNatClampNeg = y → z_ev d j (pc + 1) L (.long y :: r) M K) : z_ev d j pc L (.int x :: .ref a :: r) M K := by
  obtain ⟨f, e1⟩ := hX.1.al ha hρ
  exact z_elal (z_dc1 ht hk) e1 (z_inr h0 h1) rfl (kk _ (by rw [z_Lgo e1]))
theorem z_xlsv {x : Int32} {v : Int64} {ρ len : Nat} {lo hi : Int} (ht : z_dcs j segs = true) (n : Nat) (hk : segs[n]? = some [(pc, .lastore, 1)]) (hX : z_X T rs M0 M) (ha : T[a]? = some (.inr (ρ, 1, len, lo, hi))) (hρ : ρ ≠ 99) (ha4 : 4 ≤ a) (h0 : 0 ≤ x.toInt) (h1 : x.toInt < len) (hr : ρ ∈ rs) (kk : ∀ M1, z_X T rs M0 M1 → z_ke T [ρ] M M1 → z_Lg M1 a = z_updL (z_Lg M a) x.toNatClampNeg v → z_ev d j (pc + 1) L r M1 K) : z_ev d j pc L (.long v :: .int x :: .ref a :: r) M K := by
  obtain ⟨f, e1⟩ := hX.1.al ha hρ
  have hkp := z_kpA (z := (1, len, .inr (.inl (z_updL f x.toNatClampNeg v)))) ha e1
  refine z_elas (z_dc1 ht hk) e1 (z_inr h0 h1) ha4 (kk _ ⟨hX.1.set ha (Or.inr ⟨rfl, rfl, rfl⟩), hX.2.trans hkp fun z hz => by rw [List.mem_singleton.mp hz]; exact hr⟩ hkp ?_)
  rw [z_Lgo e1]
  exact z_Lgo (z_gs1 e1)
theorem z_xcpv {idx n2 na nb ρ σ : Nat} {tg : List (Nat × Nat)} {sp dp x : Int32} {l1 u1 l2 u2 : Int} (ht : z_dcs j segs = true) (n : Nat) (hk : segs[n]? = some [(pc, .invokestatic idx, 3)]) {oc : Nat} (ho : z_oc j = oc) (hq : (z_find z_cS oc idx).map (·.1) = some (8, n2, tg)) (hw : z_ws r ≤ 8) (hX : z_X T rs M0 M) (ha : T[a]? = some (.inr (ρ, 1, na, l1, u1))) (hb : T[b]? = some (.inr (σ, 1, nb, l2, u2))) (hρ : ρ ≠ 99) (hσ : σ ≠ 99) (ha4 : 4 ≤ a) (hb4 : 4 ≤ b) (s0 : 0 ≤ sp.toInt) (d0 : 0 ≤ dp.toInt) (x0 : 0 ≤ x.toInt) (s1 : sp.toInt + x.toInt ≤ nb) (d1 : dp.toInt + x.toInt ≤ na) (hr : ρ ∈ rs) (kk : ∀ M1, z_X T rs M0 M1 → z_ke T [ρ] M M1 → z_Lg M1 a = z_cpy (z_Lg M b) (z_Lg M a) sp.toNatClampNeg dp.toNatClampNeg x.toNatClampNeg → z_ev d j (pc + 3) L r M1 K) : z_ev d j pc L (.int x :: .int dp :: .ref a :: .int sp :: .ref b :: r) M K := by
  subst ho
  obtain ⟨g, e1⟩ := hX.1.al ha hρ
  obtain ⟨f, e2⟩ := hX.1.al hb hσ
  have hkp := z_kpA (z := (1, na, .inr (.inl (z_cpy f g sp.toNatClampNeg dp.toNatClampNeg x.toNatClampNeg)))) ha e1
  have t1 : ∀ y : Int32, 0 ≤ y.toInt → ¬ y < 0 := fun y hy h => by
    have h2 := Int32.lt_iff_toInt_lt.mp h
    rw [show (0 : Int32).toInt = 0 from rfl] at h2
    omega
  have t2 : ∀ y : Int32, 0 ≤ y.toInt → (y.toNatClampNeg : Int) = y.toInt := fun y hy => by unfold Int32.toNatClampNeg; omega
  have c1 := t2 sp s0
  have c2 := t2 dp d0
  have c3 := t2 x x0
  refine z_ecp (z_dc1 ht hk) hq hw e1 e2 ?_ (kk _ ⟨hX.1.set ha (Or.inr ⟨rfl, rfl, rfl⟩), hX.2.trans hkp fun z hz => by rw [List.mem_singleton.mp hz]; exact hr⟩ hkp ?_)
  · rintro (h | h | h | h | h | h | h)
    · exact t1 _ s0 h
    · exact t1 _ d0 h
    · exact t1 _ x0 h
    · omega
    · omega
    · omega
    · omega
  · rw [z_Lgo e1, z_Lgo e2]
    exact z_Lgo (z_gs1 e1)
end ZL1
def z_fil (f : Nat → Int64) (lo hi : Nat) (v : Int64) : Nat → Int64 := fun k => if lo ≤ k ∧ k < hi then v else f k
theorem z_fil0 {f : Nat → Int64} {lo hi : Nat} {v : Int64} (h : hi ≤ lo) : f = z_fil f lo hi v := funext fun k => by
  show f k = if lo ≤ k ∧ k < hi then v else f k
  rw [if_neg (fun ⟨a, b⟩ => absurd (Nat.lt_of_lt_of_le b h) (Nat.not_lt.mpr a))]
theorem z_fils {f f1 f2 : Nat → Int64} {lo i k j : Nat} {v : Int64} (h1 : f1 = z_fil f lo i v) (h2 : f2 = z_updL f1 k v) (hk : k = i) (hj : j = i + 1) (hl : lo ≤ i) : f2 = z_fil f lo j v := by
  subst hk hj
  rw [h2, h1]
  funext m
  show (if m = k then v else (if lo ≤ m ∧ m < k then v else f m)) = if lo ≤ m ∧ m < k + 1 then v else f m
  by_cases e : m = k
  · have e2 : lo ≤ m ∧ m < k + 1 := by omega
    rw [if_pos e, if_pos e2]
  · by_cases e2 : lo ≤ m ∧ m < k
    · have e3 : lo ≤ m ∧ m < k + 1 := by omega
      rw [if_neg e, if_pos e2, if_pos e3]
    · have e3 : ¬ (lo ≤ m ∧ m < k + 1) := by omega
      rw [if_neg e, if_neg e2, if_neg e3]
theorem z_filc {f f1 : Nat → Int64} {lo hi lo2 hi2 : Nat} {v : Int64} (e : f1 = f) (h1 : lo = lo2) (h2 : hi = hi2) : z_fil f1 lo hi v = z_fil f lo2 hi2 v := by rw [e, h1, h2]
/-- an element's lowest bits, by sort -/
def z_lbP (s : Int) (v w : Int64) : Prop := (s = 0 → w = v.toInt32.toInt8.toInt32.toInt64) ∧ (s = 1 → w = v.toInt32.toInt16.toInt32.toInt64) ∧ (s = 2 → w = v.toInt32.toInt64) ∧ (s = 3 → w = v) ∧ (s ≠ 0 → s ≠ 1 → s ≠ 2 → s ≠ 3 → (v.toInt = 0 ∧ w = 0) ∨ (v.toInt ≠ 0 ∧ w = 1))
theorem z_lbP0 {s : Int} {v w : Int64} (h : s = 0) (e : w = v.toInt32.toInt8.toInt32.toInt64) : z_lbP s v w := ⟨fun _ => e, fun q => absurd q (by omega), fun q => absurd q (by omega), fun q => absurd q (by omega), fun q => absurd h q⟩
theorem z_lbP1 {s : Int} {v w : Int64} (h : s = 1) (e : w = v.toInt32.toInt16.toInt32.toInt64) : z_lbP s v w := ⟨fun q => absurd q (by omega), fun _ => e, fun q => absurd q (by omega), fun q => absurd q (by omega), fun _ q => absurd h q⟩
theorem z_lbP2 {s : Int} {v w : Int64} (h : s = 2) (e : w = v.toInt32.toInt64) : z_lbP s v w := ⟨fun q => absurd q (by omega), fun q => absurd q (by omega), fun _ => e, fun q => absurd q (by omega), fun _ _ q => absurd h q⟩
theorem z_lbP3 {s : Int} {v : Int64} (h : s = 3) : z_lbP s v v := ⟨fun q => absurd q (by omega), fun q => absurd q (by omega), fun q => absurd q (by omega), fun _ => rfl, fun _ _ _ q => absurd h q⟩
theorem z_lbP4z {s : Int} {v : Int64} (h : s ≠ 0 ∧ s ≠ 1 ∧ s ≠ 2 ∧ s ≠ 3) (e : v.toInt = 0) : z_lbP s v 0 := ⟨fun q => absurd q h.1, fun q => absurd q h.2.1, fun q => absurd q h.2.2.1, fun q => absurd q h.2.2.2, fun _ _ _ _ => Or.inl ⟨e, rfl⟩⟩
theorem z_lbP4n {s : Int} {v : Int64} (h : s ≠ 0 ∧ s ≠ 1 ∧ s ≠ 2 ∧ s ≠ 3) (e : v.toInt ≠ 0) : z_lbP s v 1 := ⟨fun q => absurd q h.1, fun q => absurd q h.2.1, fun q => absurd q h.2.2.1, fun q => absurd q h.2.2.2, fun _ _ _ _ => Or.inr ⟨e, rfl⟩⟩
theorem z_lbPc {s s2 : Int} {v w : Int64} (h : s2 = s) (hw : z_lbP s v w) : z_lbP s2 v w := by rw [h]; exact hw
theorem z_lbP.u {s : Int} {v w w2 : Int64} (h : z_lbP s v w) (h2 : z_lbP s v w2) : w = w2 := by
  obtain ⟨a0, a1, a2, a3, a4⟩ := h
  obtain ⟨b0, b1, b2, b3, b4⟩ := h2
  by_cases q0 : s = 0
  · rw [a0 q0, b0 q0]
  by_cases q1 : s = 1
  · rw [a1 q1, b1 q1]
  by_cases q2 : s = 2
  · rw [a2 q2, b2 q2]
  by_cases q3 : s = 3
  · rw [a3 q3, b3 q3]
  rcases a4 q0 q1 q2 q3 with ⟨c, d⟩ | ⟨c, d⟩
  · rcases b4 q0 q1 q2 q3 with ⟨e, f⟩ | ⟨e, f⟩
    · rw [d, f]
    · exact absurd c e
  · rcases b4 q0 q1 q2 q3 with ⟨e, f⟩ | ⟨e, f⟩
    · exact absurd e c
    · rw [d, f]
theorem z_updLc {f f1 : Nat → Int64} {k k2 : Nat} {v : Int64} (e : f1 = f) (hk : k = k2) : z_updL f1 k v = z_updL f k2 v := by rw [e, hk]
theorem z_cpyc {f f1 : Nat → Int64} {a b n a2 b2 n2 : Nat} (e : f1 = f) (ha : a = a2) (hb : b = b2) (hn : n = n2) : z_cpy f1 f1 a b n = z_cpy f f a2 b2 n2 := by rw [e, ha, hb, hn]
theorem z_cars {F c c2 i : Nat → Int64} {A j x : Nat} {n n2 : Int} {y : Int64} (h2 : ∀ k : Nat, (k : Int) < n → c k = F (A + k)) (h1 : i = F) (h : c2 = z_updL c j y) (hy : i x = y) (hj : j = n.toNat) (hx : x = A + n.toNat) (hn : n2 = n + 1 ∧ 0 ≤ n) : ∀ k : Nat, (k : Int) < n2 → c2 k = F (A + k) := fun k hk => by
  rw [h]
  show (if k = j then y else c k) = F (A + k)
  by_cases e : k = j
  · rw [if_pos e, ← hy, h1, hx, e, hj]
  · rw [if_neg e]
    exact h2 k (by omega)
theorem z_cpy0 {f : Nat → Int64} {a b n : Nat} (h : n = 0) : f = z_cpy f f a b n := funext fun k => by
  show f k = if b ≤ k ∧ k < b + n then f (a + (k - b)) else f k
  have e : ¬ (b ≤ k ∧ k < b + n) := by omega
  rw [if_neg e]
theorem z_cpys {f f1 f2 : Nat → Int64} {a b n n2 m : Nat} {y : Int64} (h1 : f1 = z_cpy f f a b n) (h2 : f2 = z_updL f1 m y) (hm : m = b + n) (hy : y = f (a + n)) (hn : n2 = n + 1) : f2 = z_cpy f f a b n2 := by
  subst hm hn
  rw [h2, h1, hy]
  funext k
  show (if k = b + n then f (a + n) else (if b ≤ k ∧ k < b + n then f (a + (k - b)) else f k)) = if b ≤ k ∧ k < b + (n + 1) then f (a + (k - b)) else f k
  by_cases e : k = b + n
  · have e2 : b ≤ k ∧ k < b + (n + 1) := by omega
    have e3 : k - b = n := by omega
    rw [if_pos e, if_pos e2, e3]
  · by_cases e2 : b ≤ k ∧ k < b + n
    · have e3 : b ≤ k ∧ k < b + (n + 1) := by omega
      rw [if_neg e, if_pos e2, if_pos e3]
    · have e3 : ¬ (b ≤ k ∧ k < b + (n + 1)) := by omega
      rw [if_neg e, if_neg e2, if_neg e3]
