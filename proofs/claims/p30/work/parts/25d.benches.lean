/-! benches gone through: the numbers grow as digits do -/
def z_V (b : Int) (F : Nat → Int32) : Nat → Int
  | 0 => 0
  | n + 1 => b * z_V b F n + (F n).toInt
def z_NB (M : zH) (n L : Int) : Prop := ∀ i : Nat, (i : Int) < n → 0 ≤ (z_Ar M 43 i).toInt ∧ (z_Ar M 43 i).toInt < L
theorem z_NBm {M M1 : zH} {n L n2 L2 : Int} (h : z_NB M n L) (e : z_Ar M1 43 = z_Ar M 43) (hn : n2 = n) (hL : L2 = L) : z_NB M1 n2 L2 := by
  subst hn hL
  unfold z_NB
  rw [e]
  exact h
theorem z_Vnn {b : Int} {F : Nat → Int32} (hb : 0 ≤ b) : ∀ n, (∀ i, i < n → 0 ≤ (F i).toInt) → 0 ≤ z_V b F n
  | 0, _ => Int.le_refl 0
  | n + 1, h => by
    have h1 := z_Vnn (b := b) (F := F) hb n fun i hi => h i (by omega)
    have h2 := h n (by omega)
    have h3 := Int.mul_nonneg hb h1
    unfold z_V
    omega
theorem z_V5 {M : zH} {n : Int32} {L : Int} (h : z_NB M n.toInt L) (n0 : 0 ≤ n.toInt) (n1 : n.toInt ≤ 5) (hL : L ≤ 13) : 0 ≤ z_V 13 (z_Ar M 43) n.toInt.toNat ∧ z_V 13 (z_Ar M 43) n.toInt.toNat < 371293 := by
  have h1 := z_Vnn (b := 13) (F := z_Ar M 43) (by decide) n.toInt.toNat fun i hi => (h i (by omega)).1
  refine ⟨h1, ?_⟩
  have h2 : ∀ k, k ≤ n.toInt.toNat → z_V 13 (z_Ar M 43) k < 13 ^ k := by
    intro k
    induction k with
    | zero => intro _; show (0 : Int) < 1; decide
    | succ k ih =>
      intro hk
      have h3 := ih (by omega)
      have h4 := (h k (by omega)).2
      have e : (13 : Int) ^ (k + 1) = 13 * 13 ^ k := by rw [Int.pow_succ, Int.mul_comm]
      unfold z_V
      rw [e]
      omega
  have h3 := h2 _ (Nat.le_refl _)
  have h4 : (13 : Int) ^ n.toInt.toNat ≤ 13 ^ 5 := by
    have : n.toInt.toNat ≤ 5 := by omega
    match n.toInt.toNat, this with
    | 0, _ => decide
    | 1, _ => decide
    | 2, _ => decide
    | 3, _ => decide
    | 4, _ => decide
    | 5, _ => decide
    | k + 6, h => omega
  have e5 : (13 : Int) ^ 5 = 371293 := by decide
  omega
/-- the same up to j, one more there: more in all -/
theorem z_Vlt {F G : Nat → Int32} {j : Nat} : ∀ n, j < n → (∀ i, i < j → G i = F i) → (G j).toInt = (F j).toInt + 1 → (∀ i, i < n → 0 ≤ (F i).toInt ∧ (F i).toInt ≤ 12) → (∀ i, i < n → 0 ≤ (G i).toInt) → z_V 13 F n < z_V 13 G n
  | 0, h, _, _, _, _ => by omega
  | n + 1, h, he, h1, hF, hG => by
    by_cases e : j = n
    · subst e
      have : z_V 13 G j = z_V 13 F j := by
        clear h h1 hF hG
        induction j with
        | zero => rfl
        | succ j ih =>
          unfold z_V
          rw [ih (fun i hi => he i (by omega)), he j (by omega)]
      unfold z_V
      omega
    · have ih := z_Vlt n (by omega) he h1 (fun i hi => hF i (by omega)) (fun i hi => hG i (by omega))
      have a1 := hF n (by omega)
      have a2 := hG n (by omega)
      unfold z_V
      omega
/-- within goOn: the numbers up to j as they were, j's told, all in bounds -/
def z_GO (M0 M : zH) (j k v n L : Int) : Prop := (∀ i : Nat, (i : Int) < j → z_Ar M 43 i = z_Ar M0 43 i) ∧ (∀ i : Nat, (i : Int) = j → j < k → (z_Ar M 43 i).toInt = v) ∧ z_NB M n L
theorem z_GO0 {M : zH} {j k v n L : Int} (h : z_NB M n L) (hk : k ≤ j) : z_GO M M j k v n L := ⟨fun _ _ => rfl, fun _ _ z => by omega, h⟩
theorem z_GOs {M0 M M1 : zH} {j k k2 v n L : Int} {x w : Int32} (h : z_GO M0 M j k v n L) (e : z_Ar M1 43 = upd (z_Ar M 43) x.toNatClampNeg w) (hx : x.toInt = k) (h0 : 0 ≤ j) (hj : j ≤ k) (hw : k = j → w.toInt = v) (w0 : 0 ≤ w.toInt) (w1 : w.toInt < L) (hk : k2 = k + 1) : z_GO M0 M1 j k2 v n L := by
  obtain ⟨h1, h2, h3⟩ := h
  have e2 : (x.toNatClampNeg : Int) = k := by unfold Int32.toNatClampNeg; omega
  refine ⟨fun i hi => ?_, fun i hi _ => ?_, fun i hi => ?_⟩
  · rw [e]
    have : i ≠ x.toNatClampNeg := by omega
    simp only [upd, if_neg this]
    exact h1 i hi
  · rw [e]
    by_cases e3 : i = x.toNatClampNeg
    · simp only [upd, if_pos e3]
      exact hw (by omega)
    · simp only [upd, if_neg e3]
      exact h2 i hi (by omega)
  · rw [e]
    by_cases e3 : i = x.toNatClampNeg
    · simp only [upd, if_pos e3]
      exact ⟨w0, w1⟩
    · simp only [upd, if_neg e3]
      exact h3 i hi
theorem z_GOm {M0 M M1 : zH} {j k v n L : Int} (h : z_GO M0 M j k v n L) (e : z_Ar M1 43 = z_Ar M 43) : z_GO M0 M1 j k v n L := by
  unfold z_GO z_NB
  rw [e]
  exact h
theorem z_GOv {M0 M : zH} {j k v n L : Int} {N : Nat} (h : z_GO M0 M j k v n L) (h0 : z_NB M0 n L) (hL : L ≤ 12) (j0 : 0 ≤ j) (jn : j < n) (hk : j < k) (hv : ∀ i : Nat, (i : Int) = j → v = (z_Ar M0 43 i).toInt + 1) (hN : (N : Int) = n) : z_V 13 (z_Ar M0 43) N < z_V 13 (z_Ar M 43) N := by
  obtain ⟨h1, h2, h3⟩ := h
  obtain ⟨p, hp⟩ : ∃ p : Nat, j = p := ⟨j.toNat, by omega⟩
  refine z_Vlt (j := p) N (by omega) (fun i hi => h1 i (by omega)) ?_ (fun i hi => ?_) (fun i hi => (h3 i (by omega)).1)
  · rw [h2 p hp.symm hk, hv p hp.symm]
  · have := h0 i (by omega)
    omega
/-- the first bench: all noughts -/
theorem z_NB0 {M : zH} {n L : Int} (h : n ≤ 0) : z_NB M n L := fun i hi => by omega
theorem z_NBs {M M1 : zH} {n n2 L : Int} {x w : Int32} (h : z_NB M n L) (e : z_Ar M1 43 = upd (z_Ar M 43) x.toNatClampNeg w) (hx : x.toInt = n) (n0 : 0 ≤ n) (w0 : 0 ≤ w.toInt) (w1 : w.toInt < L) (hn : n2 = n + 1) : z_NB M1 n2 L := fun i hi => by
  have e2 : (x.toNatClampNeg : Int) = n := by unfold Int32.toNatClampNeg; omega
  rw [e]
  by_cases e3 : i = x.toNatClampNeg
  · simp only [upd, if_pos e3]
    exact ⟨w0, w1⟩
  · simp only [upd, if_neg e3]
    exact h i (by omega)
theorem z_Ve {b : Int} {F G : Nat → Int32} {n : Nat} (e : F = G) : z_V b F n = z_V b G n := by rw [e]
theorem z_hv {M M0 : zH} {x y : Int32} {v : Int} (h : z_Ar M 43 x.toNatClampNeg = y) (hM : M = M0) (h0 : 0 ≤ x.toInt) (hv : v = y.toInt + 1) : ∀ i : Nat, (i : Int) = x.toInt → v = (z_Ar M0 43 i).toInt + 1 := fun i hi => by
  subst hM
  have e2 : i = x.toNatClampNeg := by unfold Int32.toNatClampNeg; omega
  rw [e2, h, hv]
/-- a found agenda has a lawful set -/
def z_G4 (M : zH) : Prop := ∀ A : Int32, z_F M 19 13 = some (.int A) → ∀ r : Nat, (r : Int) < A.toInt → 1 ≤ (z_Ar M 31 r).toInt
theorem z_G4.go {M M1 : zH} {T : List zK} {rs : List Nat} (h : z_G4 M) (hX : z_X T rs M M1) (hr : ¬ 2213 ∈ rs ∧ ¬ 31 ∈ rs) : z_G4 M1 := by
  have k19 := hX.1.k (k := 19) (κ := .inl (12, 0, 0, 0, 0)) rfl (by decide)
  have k31 := hX.1.k (k := 31) (κ := z_ai 31 8 0 1024) rfl (by decide)
  unfold z_G4
  rw [hX.2.1 19 12 0 0 0 0 13 k19 hr.1, hX.2.a k31 hr.2]
  exact h
theorem z_G4u {M : zH} (h : z_G4 M) {A r y : Int32} (hA : z_F M 19 13 = some (.int A)) (r0 : 0 ≤ r.toInt) (r1 : r.toInt < A.toInt) (hy : z_Ar M 31 r.toNatClampNeg = y) : 1 ≤ y.toInt := by
  have := h A hA r.toNatClampNeg (by unfold Int32.toNatClampNeg; omega)
  rw [hy] at this
  exact this
theorem z_NBl {M : zH} {n L : Int} {x y : Int32} (h : z_NB M n L) (hy : z_Ar M 43 x.toNatClampNeg = y) (h0 : 0 ≤ x.toInt) (h1 : x.toInt < n) : 0 ≤ y.toInt ∧ y.toInt < L := by
  have := h x.toNatClampNeg (by unfold Int32.toNatClampNeg; omega)
  rw [hy] at this
  exact this
/-- rows: the next one by numbers -/
theorem z_VL1 {F G : Nat → Int32} {L : Int} {j : Nat} : ∀ n, j < n → (∀ i, i < j → G i = F i) → (G j).toInt = (F j).toInt + 1 → (∀ i, j < i → i < n → (F i).toInt = L - 1 ∧ (G i).toInt = 0) → z_V L G n = z_V L F n + 1
  | 0, h, _, _, _ => by omega
  | n + 1, h, he, h1, ht => by
    by_cases e : j = n
    · subst e
      have : z_V L G j = z_V L F j := by
        clear h h1 ht
        induction j with
        | zero => rfl
        | succ j ih =>
          unfold z_V
          rw [ih (fun i hi => he i (by omega)), he j (by omega)]
      unfold z_V
      rw [this]
      omega
    · have ih := z_VL1 n (by omega) he h1 (fun i h2 h3 => ht i h2 (by omega))
      obtain ⟨a1, a2⟩ := ht n (by omega) (by omega)
      unfold z_V
      rw [ih, a1, a2, Int.mul_add]
      omega
theorem z_V0 {M : zH} {n : Int} {b : Int} {N : Nat} (h : z_NB M n 1) (hN : (N : Int) ≤ n) : z_V b (z_Ar M 43) N = 0 := by
  induction N with
  | zero => rfl
  | succ k ih =>
    have h1 := h k (by omega)
    unfold z_V
    rw [ih (by omega)]
    omega
theorem z_NBw {M : zH} {n L L2 : Int} (h : z_NB M n L) (hL : L ≤ L2) : z_NB M n L2 := fun i hi => by have := h i hi; omega
theorem z_V216 {M : zH} {n : Int32} {L : Int} (h : z_NB M n.toInt L) (n0 : 0 ≤ n.toInt) (n1 : n.toInt ≤ 3) (L1 : 1 ≤ L) (hL : L ≤ 6) : 0 ≤ z_V L (z_Ar M 43) n.toInt.toNat ∧ z_V L (z_Ar M 43) n.toInt.toNat ≤ 215 := by
  have h1 := z_Vnn (b := L) (F := z_Ar M 43) (by omega) n.toInt.toNat fun i hi => (h i (by omega)).1
  refine ⟨h1, ?_⟩
  have step : ∀ (V c : Int) (k : Nat), (k : Int) < n.toInt → 0 ≤ V → V ≤ c → L * V + (z_Ar M 43 k).toInt ≤ 6 * c + 5 := fun V c k hk h0 hc => by
    have a1 := h k hk
    have a2 : L * V ≤ 6 * V := Int.mul_le_mul_of_nonneg_right hL h0
    omega
  obtain ⟨N, hN⟩ : ∃ N : Nat, n.toInt = N := ⟨n.toInt.toNat, by omega⟩
  rw [hN] at step h ⊢
  rw [hN] at n1
  have nn : ∀ k, k ≤ N → 0 ≤ z_V L (z_Ar M 43) k := fun k hk => z_Vnn (by omega) k fun i hi => (h i (by omega)).1
  show z_V L (z_Ar M 43) N ≤ 215
  match N, n1 with
  | 0, _ => show (0 : Int) ≤ 215; decide
  | 1, _ => have := step 0 0 0 (by omega) (by omega) (by omega); show L * 0 + (z_Ar M 43 0).toInt ≤ 215; omega
  | 2, _ =>
    have a1 := step 0 0 0 (by omega) (by omega) (by omega)
    have a2 := step (z_V L (z_Ar M 43) 1) 5 1 (by omega) (nn 1 (by omega)) (by show L * 0 + (z_Ar M 43 0).toInt ≤ 5; omega)
    show L * z_V L (z_Ar M 43) 1 + (z_Ar M 43 1).toInt ≤ 215
    omega
  | 3, _ =>
    have a1 := step 0 0 0 (by omega) (by omega) (by omega)
    have a2 := step (z_V L (z_Ar M 43) 1) 5 1 (by omega) (nn 1 (by omega)) (by show L * 0 + (z_Ar M 43 0).toInt ≤ 5; omega)
    have a3 := step (z_V L (z_Ar M 43) 2) 35 2 (by omega) (nn 2 (by omega)) (by show L * z_V L (z_Ar M 43) 1 + (z_Ar M 43 1).toInt ≤ 35; omega)
    show L * z_V L (z_Ar M 43) 2 + (z_Ar M 43 2).toInt ≤ 215
    omega
  | k + 4, h => omega
theorem z_ht {M M0 : zH} {j j2 n v : Int} {x y : Int32} (h : ∀ i : Nat, j < (i : Int) → (i : Int) < n → (z_Ar M0 43 i).toInt = v) (hy : z_Ar M 43 x.toNatClampNeg = y) (hM : M = M0) (hx : x.toInt = j) (h0 : 0 ≤ j) (hv : y.toInt = v) (h2 : j2 = j - 1) : ∀ i : Nat, j2 < (i : Int) → (i : Int) < n → (z_Ar M0 43 i).toInt = v := fun i a b => by
  subst hM
  by_cases e : (i : Int) = j
  · have e2 : i = x.toNatClampNeg := by unfold Int32.toNatClampNeg; omega
    rw [e2, hy]
    exact hv
  · exact h i (by omega) b
theorem z_hz {M M1 : zH} {P : Prop} {j k k2 : Int} {x w : Int32} (h : P → ∀ i : Nat, j < (i : Int) → (i : Int) < k → (z_Ar M 43 i).toInt = 0) (e : z_Ar M1 43 = upd (z_Ar M 43) x.toNatClampNeg w) (hx : x.toInt = k) (h0 : 0 ≤ k) (hw : P → j < k → w.toInt = 0) (hk : k2 = k + 1) : P → ∀ i : Nat, j < (i : Int) → (i : Int) < k2 → (z_Ar M1 43 i).toInt = 0 := fun p i a b => by
  have e2 : (x.toNatClampNeg : Int) = k := by unfold Int32.toNatClampNeg; omega
  rw [e]
  by_cases e3 : i = x.toNatClampNeg
  · simp only [upd, if_pos e3]
    exact hw p (by omega)
  · simp only [upd, if_neg e3]
    exact h p i a (by omega)
theorem z_hzm {M M1 : zH} {P : Prop} {j k : Int} (h : P → ∀ i : Nat, j < (i : Int) → (i : Int) < k → (z_Ar M 43 i).toInt = 0) (e : z_Ar M1 43 = z_Ar M 43) : P → ∀ i : Nat, j < (i : Int) → (i : Int) < k → (z_Ar M1 43 i).toInt = 0 := by
  rw [e]
  exact h
theorem z_GOr {M0 M : zH} {j k v n L : Int} {N : Nat} (h : z_GO M0 M j k v n L) (ht : ∀ i : Nat, j < (i : Int) → (i : Int) < n → (z_Ar M0 43 i).toInt = L - 1) (hz : ∀ i : Nat, j < (i : Int) → (i : Int) < k → (z_Ar M 43 i).toInt = 0) (j0 : 0 ≤ j) (jn : j < n) (hk : n ≤ k) (hv : ∀ i : Nat, (i : Int) = j → v = (z_Ar M0 43 i).toInt + 1) (hN : (N : Int) = n) : z_V L (z_Ar M 43) N = z_V L (z_Ar M0 43) N + 1 := by
  obtain ⟨h1, h2, h3⟩ := h
  obtain ⟨p, hp⟩ : ∃ p : Nat, j = p := ⟨j.toNat, by omega⟩
  refine z_VL1 (j := p) N (by omega) (fun i hi => h1 i (by omega)) ?_ (fun i a b => ⟨ht i (by omega) (by omega), hz i (by omega) (by omega)⟩)
  rw [h2 p hp.symm (by omega), hv p hp.symm]
def z_mx (x : Int) : Int := if x < 1 then 1 else x
theorem z_mxf (x : Int) : (x < 1 ∧ z_mx x = 1) ∨ (1 ≤ x ∧ z_mx x = x) := by
  unfold z_mx
  split <;> omega
/-- within the mending's own step -/
def z_MX (M : zH) (n j k v good more z eg : Int) (N : Nat) : Prop := ∃ Mb : zH, eg = 2 * (371293 - z_V 13 (z_Ar Mb 43) N) + 1 ∧ z_NB Mb n (z_mx z) ∧ (more = 0 → z_Ar M 43 = z_Ar Mb 43) ∧ (more = 1 → z_GO Mb M j k v n 13 ∧ (good = 1 → z_GO Mb M j k v n (z_mx z)) ∧ ∀ i : Nat, (i : Int) = j → v = (z_Ar Mb 43 i).toInt + 1)
theorem z_MX0 {M : zH} {n j k v good more z eg : Int} {N : Nat} (he : eg = 2 * (371293 - z_V 13 (z_Ar M 43) N) + 1) (h : z_NB M n (z_mx z)) (hz : z ≤ 12) (hk : k ≤ j) (hv : more = 1 → ∀ i : Nat, (i : Int) = j → v = (z_Ar M 43 i).toInt + 1) : z_MX M n j k v good more z eg N :=
  ⟨M, he, h, fun _ => rfl, fun hm => ⟨z_GO0 (z_NBw h (by have := z_mxf z; omega)) hk, fun _ => z_GO0 h hk, hv hm⟩⟩
theorem z_MXs {M M1 : zH} {n j k k2 v good more z eg : Int} {N : Nat} {x w : Int32} (h : z_MX M n j k v good more z eg N) (hm : more = 1) (e : z_Ar M1 43 = upd (z_Ar M 43) x.toNatClampNeg w) (hx : x.toInt = k) (h0 : 0 ≤ j) (hj : j ≤ k) (hw : w.toInt = v) (w0 : 0 ≤ w.toInt) (w1 : w.toInt < 13) (w2 : good = 1 → w.toInt < z_mx z) (hk : k2 = k + 1) : z_MX M1 n j k2 v good more z eg N := by
  obtain ⟨Mb, h1, h2, h3, h4⟩ := h
  obtain ⟨a1, a2, a3⟩ := h4 hm
  exact ⟨Mb, h1, h2, fun z => by omega, fun _ => ⟨z_GOs a1 e hx h0 hj (fun _ => hw) w0 w1 hk, fun g => z_GOs (a2 g) e hx h0 hj (fun _ => hw) w0 (w2 g) hk, a3⟩⟩
/-- its end: bounds, and less left -/
theorem z_MXe {M : zH} {n : Int32} {j k v good more z eg : Int} (h : z_MX M n.toInt j k v good more z eg n.toInt.toNat) (n0 : 0 ≤ n.toInt) (n1 : n.toInt ≤ 5) (hz : z ≤ 12) (hm : more = 0 ∨ (more = 1 ∧ 0 ≤ j ∧ j < n.toInt ∧ n.toInt ≤ k)) : z_NB M n.toInt 13 ∧ (good = 1 → more = 1 → z_NB M n.toInt (z_mx z)) ∧ 2 * (371293 - z_V 13 (z_Ar M 43) n.toInt.toNat) + more < eg ∧ 0 ≤ z_V 13 (z_Ar M 43) n.toInt.toNat ∧ z_V 13 (z_Ar M 43) n.toInt.toNat < 371293 := by
  obtain ⟨Mb, h1, h2, h3, h4⟩ := h
  have hmx := z_mxf z
  rcases hm with hm | ⟨hm, j0, jn, hk⟩
  · have e := h3 hm
    have b : z_NB M n.toInt 13 := z_NBw (z_NBm h2 e rfl rfl) (by omega)
    have v5 := z_V5 b n0 n1 (by omega)
    have ve := z_Ve (b := 13) (n := n.toInt.toNat) e
    exact ⟨b, fun _ z => by omega, by omega, v5.1, v5.2⟩
  · obtain ⟨a1, a2, a3⟩ := h4 hm
    have b := a1.2.2
    have v5 := z_V5 b n0 n1 (by omega)
    obtain ⟨g1, g2, g3⟩ := a1
    obtain ⟨p, hp⟩ : ∃ p : Nat, j = p := ⟨j.toNat, by omega⟩
    have lt := z_Vlt (F := z_Ar Mb 43) (G := z_Ar M 43) (j := p) n.toInt.toNat (by omega) (fun i hi => g1 i (by omega)) (by rw [g2 p hp.symm (by omega), a3 p hp.symm]) (fun i hi => by have := h2 i (by omega); omega) (fun i hi => (g3 i (by omega)).1)
    exact ⟨b, fun g _ => (a2 g).2.2, by omega, v5.1, v5.2⟩
theorem z_hvA {M : zH} {x y : Int32} {v : Int} (h : z_Ar M 43 x.toNatClampNeg = y) (h0 : 0 ≤ x.toInt) (hv : v = y.toInt + 1) : ∀ i : Nat, (i : Int) = x.toInt → v = (z_Ar M 43 i).toInt + 1 := z_hv h rfl h0 hv
theorem z_MXb {M : zH} {n : Int32} {j k v good more z eg : Int} (h : z_MX M n.toInt j k v good more z eg n.toInt.toNat) (n0 : 0 ≤ n.toInt) (n1 : n.toInt ≤ 5) (hz : z ≤ 12) : 0 ≤ eg ∧ eg ≤ 742587 := by
  obtain ⟨Mb, h1, h2, h3, h4⟩ := h
  have hmx := z_mxf z
  have v5 := z_V5 h2 n0 n1 (by omega)
  omega
