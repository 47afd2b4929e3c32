/-! what stands of an agenda on both sides: ties that its sets break, its lawful sets -/
/-- how many of the first sets break none -/
def z_lc (B : Nat → Nat) : Nat → Nat
  | 0 => 0
  | n + 1 => z_lc B n + (if B n = 0 then 1 else 0)
/-- the lawful sets below n, listed -/
def z_LS (B : Nat → Nat) (n : Nat) (S : Nat → Int32) : Prop := ∀ s, s < n → B s = 0 → (S (z_lc B s)).toInt = (s : Int)
/-- which lawful sets answer a question yes, by their numbers: the sets below n, and of n the questions below x -/
def z_YO (B : Nat → Nat) (n x q sp : Nat) (Y : Nat → Int64) : Prop := ∀ i, i < q → ∀ j, j < 64 * sp → ((Y (i * sp + j / 64)).toBitVec.getLsbD (j % 64) = true ↔ ∃ s, (s < n ∨ (s = n ∧ i < x)) ∧ B s = 0 ∧ z_lc B s = j ∧ s / 2 ^ i % 2 = 1)
/-- the lawful sets as bits of the blocks' words -/
def z_lwb (B : Nat → Nat) (q bl : Nat) (l : Nat → Int64) : Prop := ∀ s, s < 64 * bl → ((l (s / 64)).toBitVec.getLsbD (s % 64) = true ↔ s < 2 ^ q ∧ B s = 0)
/-- the sets that keep a tie as bits of its blocks' words -/
def z_tbt (B : Nat → Nat) (t q bl : Nat) (l : Nat → Int64) : Prop := ∀ i, i < t → ∀ s, s < 64 * bl → ((l (i * bl + s / 64)).toBitVec.getLsbD (s % 64) = true ↔ s < 2 ^ q ∧ B s / 2 ^ i % 2 = 0)
/-- the word of all sets of a block -/
def z_whb (q : Nat) (w : Int64) : Prop := ∀ i, i < 64 → (w.toBitVec.getLsbD i = true ↔ i < 2 ^ q)
/-- an agenda of the class -/
def z_AGO (T : List zK) (M : zH) (N q t m pr en : Nat) (B : Nat → Nat) : Prop := T[N]? = some (.inl (2, q, t, m, 0)) ∧ (∀ s, B s < 2 ^ t) ∧ m = z_lc B (2 ^ q) ∧ (∃ x : Int32, z_F M N 2 = some (.int x) ∧ x.toInt = (pr : Int)) ∧ (∃ x : Int32, z_F M N 3 = some (.int x) ∧ x.toInt = (en : Int)) ∧ (∃ w, z_F M N 7 = some (.long w) ∧ z_whb q w) ∧
  (∃ sa, z_F M N 5 = some (.ref sa) ∧ T[sa]? = some (.inr (102, 0, m, 0, 1023)) ∧ z_LS B (2 ^ q) (z_Ar M sa)) ∧ (∃ lb, z_F M N 9 = some (.ref lb) ∧ T[lb]? = some (.inr (109, 1, z_bl q, 0, 0)) ∧ z_lwb B q (z_bl q) (z_Lg M lb)) ∧
  (∃ kp, z_F M N 8 = some (.ref kp) ∧ T[kp]? = some (.inr (108, 1, t * z_bl q, 0, 0)) ∧ z_tbt B t q (z_bl q) (z_Lg M kp)) ∧ (∃ ya, z_F M N 11 = some (.ref ya) ∧ T[ya]? = some (.inr (111, 1, q * z_sp m, 0, 0)) ∧ z_YO B (2 ^ q) 0 q (z_sp m) (z_Lg M ya))
/-- an agenda of the reference -/
def y_AGO (M : zH) (a q t m pr en : Nat) (B : Nat → Nat) : Prop := (z_Ar M 24 a).toInt = (q : Int) ∧ (z_Ar M 25 a).toInt = (t : Int) ∧ ((z_Ar M 27 a).toInt = (pr : Int) ∧ pr < 1024) ∧ ((z_Ar M 28 a).toInt = (en : Int) ∧ en < 1024) ∧ (z_Ar M 31 a).toInt = (m : Int) ∧ (∀ s, s < 2 ^ q → (z_Ar M 29 (1024 * a + s)).toInt = (B s : Int)) ∧ z_LS B (2 ^ q) (fun n => z_Ar M 30 (1024 * a + n))
/-- agenda a of both sides, its told bench -/
def z_AB (T : List zK) (M : zH) (a b N q t m pr en : Nat) (B : Nat → Nat) : Prop := z_O M 10 a = some b ∧ T[b]? = some (.inl (3, q, t, m, 9)) ∧ z_F M b 0 = some (.ref N) ∧ z_AGO T M N q t m pr en B ∧ y_AGO M a q t m pr en B
def z_R6 (T : List zK) (M : zH) : Prop := ∀ A : Int32, z_F M 4 3 = some (.int A) → ∀ a : Nat, (a : Int) < A.toInt → ∃ (b N q t m pr en : Nat) (B : Nat → Nat), z_AB T M a b N q t m pr en B
def z_agf : List Nat := [1202, 1203, 1205, 1207, 1208, 1209, 1211, 102, 108, 109, 111]
def z_agr : List Nat := [24, 25, 27, 28, 29, 30, 31]
theorem z_nin {p rs : List Nat} (h : (p.all fun x => !rs.elem x) = true) (x : Nat) (hx : p.elem x = true) : ¬ x ∈ rs := fun hm => by
  have h1 := List.all_eq_true.mp h x (List.elem_iff.mp hx)
  rw [List.elem_iff.mpr hm] at h1
  cases h1
theorem z_AGO.ke {T T1 : List zK} {M M1 : zH} {N q t m pr en : Nat} {B : Nat → Nat} {rs : List Nat} (h : z_AGO T M N q t m pr en B) (hp : ∀ (a : Nat) (κ : zK), T[a]? = some κ → T1[a]? = some κ) (ke : z_ke T rs M M1) (hr : (z_agf.all fun x => !rs.elem x) = true) : z_AGO T1 M1 N q t m pr en B := by
  have n := z_nin hr
  obtain ⟨k0, hB, hm, ⟨x2, e2, f2⟩, ⟨x3, e3, f3⟩, ⟨w, e7, f7⟩, ⟨sa, e5, k5, f5⟩, ⟨lb, e9, k9, f9⟩, ⟨kp, e8, k8, f8⟩, ⟨ya, e11, k11, f11⟩⟩ := h
  refine ⟨hp _ _ k0, hB, hm, ⟨x2, ke.f k0 (n _ rfl) e2, f2⟩, ⟨x3, ke.f k0 (n _ rfl) e3, f3⟩, ⟨w, ke.f k0 (n _ rfl) e7, f7⟩, ⟨sa, ke.f k0 (n _ rfl) e5, hp _ _ k5, ?_⟩, ⟨lb, ke.f k0 (n _ rfl) e9, hp _ _ k9, ?_⟩, ⟨kp, ke.f k0 (n _ rfl) e8, hp _ _ k8, ?_⟩, ⟨ya, ke.f k0 (n _ rfl) e11, hp _ _ k11, ?_⟩⟩
  · rw [ke.a k5 (n _ rfl)]; exact f5
  · rw [ke.lg k9 (n _ rfl)]; exact f9
  · rw [ke.lg k8 (n _ rfl)]; exact f8
  · rw [ke.lg k11 (n _ rfl)]; exact f11
theorem y_AGO.ke {T : List zK} {M M1 M' : zH} {a q t m pr en : Nat} {B : Nat → Nat} {rs : List Nat} (h : y_AGO M a q t m pr en B) (hW : z_W M' T) (ke : z_ke T rs M M1) (hr : (z_agr.all fun x => !rs.elem x) = true) : y_AGO M1 a q t m pr en B := by
  have n := z_nin hr
  have k24 := hW.k (k := 24) (κ := z_ai 24 8 0 10) rfl (by decide)
  have k25 := hW.k (k := 25) (κ := z_ai 25 8 0 8) rfl (by decide)
  have k27 := hW.k (k := 27) (κ := z_af 27 8) rfl (by decide)
  have k28 := hW.k (k := 28) (κ := z_af 28 8) rfl (by decide)
  have k29 := hW.k (k := 29) (κ := z_af 29 8192) rfl (by decide)
  have k30 := hW.k (k := 30) (κ := z_ai 30 8192 0 1023) rfl (by decide)
  have k31 := hW.k (k := 31) (κ := z_ai 31 8 0 1024) rfl (by decide)
  unfold y_AGO at h ⊢
  rw [ke.a k24 (n _ rfl), ke.a k25 (n _ rfl), ke.a k27 (n _ rfl), ke.a k28 (n _ rfl), ke.a k29 (n _ rfl), ke.a k30 (n _ rfl), ke.a k31 (n _ rfl)]
  exact h
theorem z_R6.ke {M M1 : zH} {T T1 : List zK} {rs : List Nat} (h : z_R6 T M) (hW : z_W M T) (hp : ∀ (a : Nat) (κ : zK), T[a]? = some κ → T1[a]? = some κ) (ke : z_ke T rs M M1) (hr : (z_agf.all fun x => !rs.elem x) = true) (hs : (z_agr.all fun x => !rs.elem x) = true) (ht : ([1003, 10, 1300].all fun x => !rs.elem x) = true) : z_R6 T1 M1 := by
  have n := z_nin ht
  have k4 := hW.k (k := 4) (κ := .inl (0, 0, 0, 0, 0)) rfl (by decide)
  have k10 := hW.k (k := 10) (κ := .inr (10, 2, 8, 9, 0)) rfl (by decide)
  intro A hA a ha
  rw [ke.1 4 0 0 0 0 0 3 k4 (n _ rfl)] at hA
  obtain ⟨b, N, q, t, m, pr, en, B, h1, h2, h3, h4, h5⟩ := h A hA a ha
  refine ⟨b, N, q, t, m, pr, en, B, ?_, hp _ _ h2, ke.f h2 (n _ rfl) h3, h4.ke hp ke hr, h5.ke hW ke hs⟩
  rw [ke.o k10 (n _ rfl)]
  exact h1
/-- the numbers of lawful sets -/
theorem z_lc_ex {B : Nat → Nat} : ∀ N n, n < z_lc B N → ∃ s, s < N ∧ B s = 0 ∧ z_lc B s = n
  | 0, n, h => absurd h (Nat.not_lt_zero n)
  | N + 1, n, h => by
    have e : z_lc B (N + 1) = z_lc B N + (if B N = 0 then 1 else 0) := rfl
    by_cases c : n < z_lc B N
    · obtain ⟨s, h1, h2, h3⟩ := z_lc_ex N n c
      exact ⟨s, by omega, h2, h3⟩
    · by_cases c2 : B N = 0
      · rw [if_pos c2] at e
        exact ⟨N, Nat.lt_succ_self N, c2, by omega⟩
      · rw [if_neg c2] at e
        omega
