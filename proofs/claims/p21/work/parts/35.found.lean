/-! an agenda is seated -/
theorem zzm33 : z_ml 33 = 2 := by decide +kernel
theorem zzw0_16 : (z_find z_nw 0 16).map (·.1) = some 3 := by decide +kernel
theorem zzcI0_82 : (z_find z_cI 0 82).map (·.1) = some (3, 1, [(0, 33)]) := by decide +kernel
theorem zw0_3 : ((z_cl[0]?).map fun w => (w.2.1 3).2.2.2) = some false := by decide +kernel
theorem z_bench {M : zH} {T : List zK} (h : z_W M T) {a q t m J sp : Nat} (ha : T[a]? = some (.inl (2, q, t, m, 0))) (hm : 1 ≤ m) (hJ : J = 9 ∨ J = 5) (hs : sp = z_sp m) : z_W (M ++ [.inr (3, [.ref a, .ref (M.length + 1), .ref (M.length + 2), .ref (M.length + 3), .int 0, .ref (M.length + 4), .ref (M.length + 5), .ref (M.length + 6), .ref (M.length + 7), .ref (M.length + 10), .ref (M.length + 8), .ref (M.length + 9)]), .inl (0, 9, .inl fun _ => 0), .inl (0, 9, .inl fun _ => 0), .inl (0, 9, .inl fun _ => 0), .inl (0, 10, .inl fun _ => 0), .inl (0, 32, .inl fun _ => 0), .inl (0, 32, .inl fun _ => 0), .inl (0, 10, .inl fun _ => 0), .inl (0, 5, .inl fun _ => 0), .inl (0, 80, .inl fun _ => 0), .inl (1, sp, .inr (.inl fun _ => 0))]) (T ++ [.inl (3, q, t, m, J), z_af 201 9, z_af 202 9, z_af 203 9, z_af 205 10, z_af 206 32, z_af 207 32, z_ai 208 10 0 (q - 1), z_ai 210 5 0 (m - 1), z_af 211 80, z_al 209 (z_sp m)]) := by
  subst hs
  obtain ⟨p1, p2, p3, p4⟩ : 1 ≤ q ∧ q ≤ 10 ∧ t ≤ 8 ∧ m ≤ 1024 := by
    obtain ⟨fs, g1, g2, g3, g4, g5⟩ := h.ob ha
    exact g3.2.1 (Or.inl rfl)
  have z0 : (0 : Int32).toInt = 0 := rfl
  have hx : ∀ (κs : List zK) (j : Nat), (T ++ κs)[M.length + j]? = κs[j]? := fun κs j => by
    rw [h.1, List.getElem?_append_right (by omega), Nat.add_sub_cancel_left]
  have hz : ∀ {lo hi : Int}, lo ≤ 0 → 0 ≤ hi → ∀ n i : Nat, i < n → lo ≤ ((fun _ => 0 : Nat → Int32) i).toInt ∧ ((fun _ => 0 : Nat → Int32) i).toInt ≤ hi := fun h1 h2 n i _ => ⟨by show _ ≤ (0 : Int32).toInt; rw [z0]; exact h1, by show (0 : Int32).toInt ≤ _; rw [z0]; exact h2⟩
  refine h.block rfl (fun i e κ h1 h2 => ?_)
  match i, h1, h2 with
  | 0, h1, h2 =>
    cases h1
    cases h2
    refine ⟨rfl, rfl, ⟨by decide, fun _ => ⟨p1, p2, p3, p4⟩, fun _ => ⟨hm, hJ⟩⟩, fun k v hk => ?_⟩
    match k, hk with
    | 0, hk => cases hk; show _ = _; rw [List.getElem?_append_left (List.getElem?_eq_some_iff.mp ha).1]; exact ha
    | 1, hk => cases hk; exact hx _ 1
    | 2, hk => cases hk; exact hx _ 2
    | 3, hk => cases hk; exact hx _ 3
    | 4, hk => cases hk; exact ⟨by decide, by show (0 : Int32).toInt ≤ _; rw [z0]; omega⟩
    | 5, hk => cases hk; exact hx _ 4
    | 6, hk => cases hk; exact hx _ 5
    | 7, hk => cases hk; exact hx _ 6
    | 8, hk => cases hk; exact hx _ 7
    | 9, hk => cases hk; exact hx _ 10
    | 10, hk => cases hk; exact hx _ 8
    | 11, hk => cases hk; exact hx _ 9
  | 1, h1, h2 => cases h1; cases h2; exact Or.inr ⟨rfl, rfl, rfl, hz (by decide) (by decide) _⟩
  | 2, h1, h2 => cases h1; cases h2; exact Or.inr ⟨rfl, rfl, rfl, hz (by decide) (by decide) _⟩
  | 3, h1, h2 => cases h1; cases h2; exact Or.inr ⟨rfl, rfl, rfl, hz (by decide) (by decide) _⟩
  | 4, h1, h2 => cases h1; cases h2; exact Or.inr ⟨rfl, rfl, rfl, hz (by decide) (by decide) _⟩
  | 5, h1, h2 => cases h1; cases h2; exact Or.inr ⟨rfl, rfl, rfl, hz (by decide) (by decide) _⟩
  | 6, h1, h2 => cases h1; cases h2; exact Or.inr ⟨rfl, rfl, rfl, hz (by decide) (by decide) _⟩
  | 7, h1, h2 => cases h1; cases h2; exact Or.inr ⟨rfl, rfl, rfl, hz (by decide) (by omega) _⟩
  | 8, h1, h2 => cases h1; cases h2; exact Or.inr ⟨rfl, rfl, rfl, hz (by decide) (by omega) _⟩
  | 9, h1, h2 => cases h1; cases h2; exact Or.inr ⟨rfl, rfl, rfl, hz (by decide) (by decide) _⟩
  | 10, h1, h2 => cases h1; cases h2; exact Or.inr ⟨rfl, rfl, rfl⟩
theorem z_ke.sub {T T1 : List zK} {rs : List Nat} {M M1 : zH} (hp : ∀ (a : Nat) (κ : zK), T[a]? = some κ → T1[a]? = some κ) (h : z_ke T1 rs M M1) : z_ke T rs M M1 :=
  ⟨fun a ci q t m J k ha hr => h.1 a ci q t m J k (hp _ _ ha) hr, fun a r x ha hr => h.2 a r x (hp _ _ ha) hr⟩
theorem z_ke.block {T : List zK} {M es : zH} {rs : List Nat} (h : z_W M T) : z_ke T rs M (M ++ es) := by
  have h1 : ∀ (a : Nat) (κ : zK), T[a]? = some κ → (M ++ es)[a]? = M[a]? := fun a κ hk => by
    rw [List.getElem?_append_left (by have := (List.getElem?_eq_some_iff.mp hk).1; rw [h.1]; exact this)]
  exact ⟨fun a ci q t m J k ha _ => by unfold z_F; rw [h1 a _ ha], fun a r x ha _ => h1 a _ ha⟩
theorem z_pfx {T κs : List zK} : ∀ (a : Nat) (κ : zK), T[a]? = some κ → (T ++ κs)[a]? = some κ := fun a κ h => by rw [List.getElem?_append_left (List.getElem?_eq_some_iff.mp h).1]; exact h
theorem z_asg {T : List zK} {rs : List Nat} {M0 M : zH} {f : Nat → Option Nat} {x : Int32} {b a : Nat} {J : Int} (hX : z_X T rs M0 M) (ha : T[a]? = some (.inr (a, 2, 8, J, 0))) (e1 : M[a]? = some (.inl (2, 8, .inr (.inr f)))) (e3 : ∀ i b, i < 8 → f i = some b → z_elk T 2 J b) (hy : z_elk T 2 J b) (hr : a ∈ rs) : z_X T rs M0 (M.set a (.inl (2, 8, .inr (.inr (z_updR f x.toNatClampNeg (some b)))))) ∧ z_ke T [a] M (M.set a (.inl (2, 8, .inr (.inr (z_updR f x.toNatClampNeg (some b)))))) := by
  have hkp := z_kpA (z := (2, 8, .inr (.inr (z_updR f x.toNatClampNeg (some b))))) ha e1
  refine ⟨⟨hX.1.set ha (Or.inr ⟨rfl, by decide, rfl, fun i b2 hi hb => ?_⟩), hX.2.trans hkp fun z hz => by rw [List.mem_singleton.mp hz]; exact hr⟩, hkp⟩
  by_cases hi3 : i = x.toNatClampNeg
  · have : some b = some b2 := by rw [← hb]; simp [z_updR, hi3]
    cases this
    exact hy
  · exact e3 i b2 hi (by rw [← hb]; simp [z_updR, hi3])
theorem z_xasG {d j pc a b : Nat} {segs : List (List (Nat × Instr × Nat))} {L : zL} {r : zS} {M M0 : zH} {T : List zK} {rs : List Nat} {K : Option Value → zH → Prop} {x : Int32} {q t m : Nat} {J : Int} (ht : z_dcs j segs = true) (n : Nat) (hk : segs[n]? = some [(pc, .aastore, 1)]) (hX : z_X T rs M0 M) (ha : T[a]? = some (.inr (a, 2, 8, J, 0))) (ha99 : a ≠ 99) (ha4 : 4 ≤ a) (h0 : 0 ≤ x.toInt) (h1 : x.toInt < (8 : Nat)) (hb : T[b]? = some (.inl (3, q, t, m, J.toNat))) (hr : a ∈ rs) (kk : ∀ M1, z_X T rs M0 M1 → z_ke T [a] M M1 → z_O M1 a = z_updR (z_O M a) x.toNatClampNeg (some b) → z_sz M1 = z_sz M → z_ev d j (pc + 1) L r M1 K) : z_ev d j pc L (.ref b :: .int x :: .ref a :: r) M K := by
  obtain ⟨f, e1, e2, e3⟩ := hX.1.aa ha ha99 (by decide)
  obtain ⟨fs, h3, h4, h5, h6, h7⟩ := hX.1.ob hb
  obtain ⟨g1, g2⟩ := z_asg (x := x) (b := b) hX ha e1 e3 ⟨q, t, m, hb⟩ hr
  refine z_eas (z_dc1 ht hk) e1 h3 (z_inr h0 h1) ha4 h7 (Or.inl ⟨rfl, rfl⟩) (kk _ g1 g2 ?_ (z_sz_set e1 rfl))
  rw [e2]
  unfold z_O
  rw [z_gs1 e1]
/-- an agenda is seated: what is left of the invariant -/
theorem z_seat {T T3 : List zK} {M M5 : zH} {a N1 N3 : Nat} {A u : Int32} (hA : z_GG T M ∧ z_GL M ∧ z_G4 M ∧ z_F M 4 5 = z_F M 19 21) (hW : z_W M5 T3) (ke : z_ke T [10, 11, 1003] M M5) (hA0 : z_F M 4 3 = some (.int A)) (hu : z_F M5 4 3 = some (.int u)) (hu1 : u.toInt = A.toInt + 1) (a0 : 0 ≤ A.toInt)
    (o10 : z_O M5 10 = z_updR (z_O M 10) A.toNatClampNeg (some N1)) (o11 : z_O M5 11 = z_updR (z_O M 11) A.toNatClampNeg (some N3)) (g1 : z_F M5 N1 0 = some (.ref a)) (g3 : z_F M5 N3 0 = some (.ref a)) : z_GG T3 M5 ∧ z_GL M5 ∧ z_G4 M5 ∧ z_F M5 4 5 = z_F M5 19 21 := by
  have h0 := hA.1.1
  have k4 := h0.k (k := 4) (κ := .inl (0, 0, 0, 0, 0)) rfl (by decide)
  have k10 := h0.k (k := 10) (κ := .inr (10, 2, 8, 9, 0)) rfl (by decide)
  have k11 := h0.k (k := 11) (κ := .inr (11, 2, 8, 5, 0)) rfl (by decide)
  have k12 := h0.k (k := 12) (κ := .inr (12, 3, 20, 0, 0)) rfl (by decide)
  have k19 := h0.k (k := 19) (κ := .inl (12, 0, 0, 0, 0)) rfl (by decide)
  have k23 := h0.k (k := 23) (κ := z_af 23 80) rfl (by decide)
  have k24 := h0.k (k := 24) (κ := z_ai 24 8 0 10) rfl (by decide)
  have k31 := h0.k (k := 31) (κ := z_ai 31 8 0 1024) rfl (by decide)
  have e5 : z_F M5 4 5 = z_F M 4 5 := ke.1 4 0 0 0 0 0 5 k4 (by decide)
  have e21 : z_F M5 19 21 = z_F M 19 21 := ke.1 19 12 0 0 0 0 21 k19 (by decide)
  have e13 : z_F M5 19 13 = z_F M 19 13 := ke.1 19 12 0 0 0 0 13 k19 (by decide)
  refine ⟨⟨hW, ⟨?_, ?_⟩, ?_⟩, ?_, ?_, by rw [e5, e21]; exact hA.2.2.2⟩
  · intro B hB i i0 i1
    rw [hu] at hB
    cases hB
    rw [o10, o11]
    unfold z_updR
    by_cases hi : i.toNatClampNeg = A.toNatClampNeg
    · rw [if_pos hi, if_pos hi]; exact ⟨(fun h => nomatch h), (fun h => nomatch h)⟩
    · rw [if_neg hi, if_neg hi]
      refine hA.1.2.1.1 A hA0 i i0 ?_
      unfold Int32.toNatClampNeg at hi
      omega
  · rw [e5, ke.o k12 (by decide)]
    exact hA.1.2.1.2
  · intro i b c hi hb hc
    rw [o10] at hb
    rw [o11] at hc
    unfold z_updR at hb hc
    by_cases h : i = A.toNatClampNeg
    · rw [if_pos h] at hb hc
      cases hb
      cases hc
      rw [g1, g3]
    · rw [if_neg h] at hb hc
      obtain ⟨f, l1, l2, l3⟩ := h0.aa k10 (by decide) (by decide)
      obtain ⟨f2, l4, l5, l6⟩ := h0.aa k11 (by decide) (by decide)
      obtain ⟨q1, t1, m1, kb⟩ : ∃ q t m, T[b]? = some (.inl (3, q, t, m, 9)) := l3 i b hi (by rw [← l2]; exact hb)
      obtain ⟨q2, t2, m2, kc⟩ : ∃ q t m, T[c]? = some (.inl (3, q, t, m, 5)) := l6 i c hi (by rw [← l5]; exact hc)
      rw [ke.1 b 3 q1 t1 m1 9 0 kb (by decide), ke.1 c 3 q2 t2 m2 5 0 kc (by decide)]
      exact hA.1.2.2 i b c hi hb hc
  · unfold z_GL
    rw [ke.a k23 (by decide), ke.a k24 (by decide)]
    exact hA.2.1
  · unfold z_G4
    rw [e13, ke.a k31 (by decide)]
    exact hA.2.2.1

theorem z_kbo {M es : zH} {T : List zK} (h : z_W M T) {a r : Nat} {x : Nat × Nat × Int × Int} (ha : T[a]? = some (.inr (r, x))) : z_O (M ++ es) a = z_O M a := by
  unfold z_O
  rw [List.getElem?_append_left (by have := (List.getElem?_eq_some_iff.mp ha).1; rw [h.1]; exact this)]
theorem z_szb {M : zH} {a m : Nat} {es : zH} (N : Nat) (he : es = [.inr (3, [.ref a, .ref (N + 1), .ref (N + 2), .ref (N + 3), .int 0, .ref (N + 4), .ref (N + 5), .ref (N + 6), .ref (N + 7), .ref (N + 10), .ref (N + 8), .ref (N + 9)]), .inl (0, 9, .inl fun _ => 0), .inl (0, 9, .inl fun _ => 0), .inl (0, 9, .inl fun _ => 0), .inl (0, 10, .inl fun _ => 0), .inl (0, 32, .inl fun _ => 0), .inl (0, 32, .inl fun _ => 0), .inl (0, 10, .inl fun _ => 0), .inl (0, 5, .inl fun _ => 0), .inl (0, 80, .inl fun _ => 0), .inl (1, z_sp m, .inr (.inl fun _ => 0))]) : z_sz (M ++ es) = z_sz M + (208 + z_sp m) := by
  subst he
  have h3 : z_nf 3 = 12 := by decide
  simp [z_sz, z_cz, h3]
  omega
theorem z_nwo {M : zH} {T : List zK} {d j pc : Nat} {L : zL} {S : zS} {K : Option Value → zH → Prop} (hW : z_W M T) {a q t m : Nat} (ka : T[a]? = some (.inl (2, q, t, m, 0))) (hm : 1 ≤ m) (kk : ∀ (fs : List Value) (x : Int32), M[a]? = some (.inr (2, fs)) → 4 ≤ a → 4 ≤ M.length → fs[10]? = some (.int x) → ¬ (x < 0 ∨ 1000000 < x.toNatClampNeg) → x.toNatClampNeg = z_sp m → z_ev d j pc L S M K) : z_ev d j pc L S M K := by
  obtain ⟨fs, g1, g2, g3, g4, g5⟩ := hW.ob ka
  obtain ⟨v, q1, q2⟩ := hW.fld ka (k := 10) (by decide)
  have hm2 := (g3.2.1 (Or.inl rfl)).2.2.2
  have hsp : z_sp m ≤ 16 := by unfold z_sp; omega
  unfold z_F at q1
  rw [g1] at q1
  match v, q2 with
  | .int x, q2 =>
    have h1 : (z_sp m : Int) ≤ x.toInt := q2.1
    have h2 : x.toInt ≤ (z_sp m : Int) := q2.2
    have h3 : x.toNatClampNeg = z_sp m := by unfold Int32.toNatClampNeg; omega
    exact kk fs x g1 g5 (by rw [hW.1]; have := hW.ge; omega) q1 (by rw [h3]; exact fun h => h.elim (fun h => by have := Int32.lt_iff_toInt_lt.mp h; rw [show (0 : Int32).toInt = 0 from rfl] at this; omega) (fun h => by omega)) h3
