/-! an agenda is seated -/
theorem zzm33 : z_ml 33 = 2 := by decide +kernel
theorem zzw0_16 : (z_find z_nw 0 16).map (·.1) = some 3 := by decide +kernel
theorem zzcI0_82 : (z_find z_cI 0 82).map (·.1) = some (3, 1, [(0, 33)]) := by decide +kernel
theorem zw0_3 : ((z_cl[0]?).map fun w => (w.2.1 3).2.2.2) = some false := by decide +kernel
theorem z_bench {M : zH} {T : List zK} (h : z_W M T) {a q t m J sp : Nat} (ha : T[a]? = some (.inl (2, q, t, m, 0))) (hm : 1 ≤ m) (hJ : J = 9 ∨ J = 5) (hs : sp = z_sp m) : z_W (M ++ [.inr (3, [.ref a, .ref (M.length + 1), .ref (M.length + 2), .ref (M.length + 3), .int 0, .ref (M.length + 4), .ref (M.length + 5), .ref (M.length + 6), .ref (M.length + 7), .ref (M.length + 10), .ref (M.length + 8), .ref (M.length + 9)]), .inl (0, 9, .inl fun _ => 0), .inl (0, 9, .inl fun _ => 0), .inl (0, 9, .inl fun _ => 0), .inl (0, 10, .inl fun _ => 0), .inl (0, 32, .inl fun _ => 0), .inl (0, 32, .inl fun _ => 0), .inl (0, 10, .inl fun _ => 0), .inl (0, 5, .inl fun _ => 0), .inl (0, 80, .inl fun _ => 0), .inl (1, sp, .inr (.inl fun _ => 0))]) (T ++ [.inl (3, q, t, m, J), z_af 201 9, z_af 202 9, z_af 203 9, z_af 205 10, z_af 206 32, z_af 207 32, z_ai 208 10 0 (q - 1), z_ai 210 5 0 (m - 1), z_af 211 80, z_al 209 (z_sp m)]) := by
  subst hs
  obtain ⟨p1, p2, p3, p4⟩ : 1 ≤ q ∧ q ≤ 10 ∧ t ≤ 8 ∧ m ≤ 1024 := by
    obtain ⟨fs, g1, g2, g3, g4, g5⟩ := h.ob ha
    exact g3.2.1 (Or.inl rfl)
  have z0 : (0 : Int32).toInt = 0 := rfl
  have hx : ∀ (κs : List zK) (j : Nat), (T ++ κs)[M.length + j]? = κs[j]? := fun κs j => by
    rw [h.1, List.getElem?_append_right (by omega), Nat.add_sub_cancel_left]
  have hz : ∀ {lo hi : Int}, lo ≤ 0 → 0 ≤ hi → ∀ n i : Nat, i < n → lo ≤ ((fun _ => 0 : Nat → Int32) i).toInt ∧ ((fun _ => 0 : Nat → Int32) i).toInt ≤ hi := fun h1 h2 n i _ => ⟨by show _ ≤ (0 : Int32).toInt; rw [z0]; exact h1, by show (0 : Int32).toInt ≤ _; rw [z0]; exact h2⟩
  refine h.block rfl (fun i e κ h1 h2 => ?_)
  match i, h1, h2 with
  | 0, h1, h2 =>
    cases h1
    cases h2
    refine ⟨rfl, rfl, ⟨by decide, fun _ => ⟨p1, p2, p3, p4⟩, fun _ => ⟨hm, hJ⟩⟩, fun k v hk => ?_⟩
    match k, hk with
    | 0, hk => cases hk; show _ = _; rw [List.getElem?_append_left (List.getElem?_eq_some_iff.mp ha).1]; exact ha
    | 1, hk => cases hk; exact hx _ 1
    | 2, hk => cases hk; exact hx _ 2
    | 3, hk => cases hk; exact hx _ 3
    | 4, hk => cases hk; exact ⟨by decide, by show (0 : Int32).toInt ≤ _; rw [z0]; omega⟩
    | 5, hk => cases hk; exact hx _ 4
    | 6, hk => cases hk; exact hx _ 5
    | 7, hk => cases hk; exact hx _ 6
    | 8, hk => cases hk; exact hx _ 7
    | 9, hk => cases hk; exact hx _ 10
    | 10, hk => cases hk; exact hx _ 8
    | 11, hk => cases hk; exact hx _ 9
  | 1, h1, h2 => cases h1; cases h2; exact Or.inr ⟨rfl, rfl, rfl, hz (by decide) (by decide) _⟩
  | 2, h1, h2 => cases h1; cases h2; exact Or.inr ⟨rfl, rfl, rfl, hz (by decide) (by decide) _⟩
  | 3, h1, h2 => cases h1; cases h2; exact Or.inr ⟨rfl, rfl, rfl, hz (by decide) (by decide) _⟩
  | 4, h1, h2 => cases h1; cases h2; exact Or.inr ⟨rfl, rfl, rfl, hz (by decide) (by decide) _⟩
  | 5, h1, h2 => cases h1; cases h2; exact Or.inr ⟨rfl, rfl, rfl, hz (by decide) (by decide) _⟩
  | 6, h1, h2 => cases h1; cases h2; exact Or.inr ⟨rfl, rfl, rfl, hz (by decide) (by decide) _⟩
  | 7, h1, h2 => cases h1; cases h2; exact Or.inr ⟨rfl, rfl, rfl, hz (by decide) (by omega) _⟩
  | 8, h1, h2 => cases h1; cases h2; exact Or.inr ⟨rfl, rfl, rfl, hz (by decide) (by omega) _⟩
  | 9, h1, h2 => cases h1; cases h2; exact Or.inr ⟨rfl, rfl, rfl, hz (by decide) (by decide) _⟩
  | 10, h1, h2 => cases h1; cases h2; exact Or.inr ⟨rfl, rfl, rfl⟩
theorem z_ke.sub {T T1 : List zK} {rs : List Nat} {M M1 : zH} (hp : ∀ (a : Nat) (κ : zK), T[a]? = some κ → T1[a]? = some κ) (h : z_ke T1 rs M M1) : z_ke T rs M M1 :=
  ⟨fun a ci q t m J k ha hr => h.1 a ci q t m J k (hp _ _ ha) hr, fun a r x ha hr => h.2 a r x (hp _ _ ha) hr⟩
theorem z_ke.block {T : List zK} {M es : zH} {rs : List Nat} (h : z_W M T) : z_ke T rs M (M ++ es) := by
  have h1 : ∀ (a : Nat) (κ : zK), T[a]? = some κ → (M ++ es)[a]? = M[a]? := fun a κ hk => by
    rw [List.getElem?_append_left (by have := (List.getElem?_eq_some_iff.mp hk).1; rw [h.1]; exact this)]
  exact ⟨fun a ci q t m J k ha _ => by unfold z_F; rw [h1 a _ ha], fun a r x ha _ => h1 a _ ha⟩
theorem z_pfx {T κs : List zK} : ∀ (a : Nat) (κ : zK), T[a]? = some κ → (T ++ κs)[a]? = some κ := fun a κ h => by rw [List.getElem?_append_left (List.getElem?_eq_some_iff.mp h).1]; exact h
theorem z_asg {T : List zK} {rs : List Nat} {M0 M : zH} {f : Nat → Option Nat} {x : Int32} {b a : Nat} {J : Int} (hX : z_X T rs M0 M) (ha : T[a]? = some (.inr (a, 2, 8, J, 0))) (e1 : M[a]? = some (.inl (2, 8, .inr (.inr f)))) (e3 : ∀ i b, i < 8 → f i = some b → z_elk T 2 J b) (hy : z_elk T 2 J b) (hr : a ∈ rs) : z_X T rs M0 (M.set a (.inl (2, 8, .inr (.inr (z_updR f x.toNatClampNeg (some b)))))) ∧ z_ke T [a] M (M.set a (.inl (2, 8, .inr (.inr (z_updR f x.toNatClampNeg (some b)))))) := by
  have hkp := z_kpA (z := (2, 8, .inr (.inr (z_updR f x.toNatClampNeg (some b))))) ha e1
  refine ⟨⟨hX.1.set ha (Or.inr ⟨rfl, by decide, rfl, fun i b2 hi hb => ?_⟩), hX.2.trans hkp fun z hz => by rw [List.mem_singleton.mp hz]; exact hr⟩, hkp⟩
  by_cases hi3 : i = x.toNatClampNeg
  · have : some b = some b2 := by rw [← hb]; simp [z_updR, hi3]
    cases this
    exact hy
  · exact e3 i b2 hi (by rw [← hb]; simp [z_updR, hi3])
theorem z_xasG {d j pc a b : Nat} {segs : List (List (Nat × Instr × Nat))} {L : zL} {r : zS} {M M0 : zH} {T : List zK} {rs : List Nat} {K : Option Value → zH → Prop} {x : Int32} {q t m : Nat} {J : Int} (ht : z_dcs j segs = true) (n : Nat) (hk : segs[n]? = some [(pc, .aastore, 1)]) (hX : z_X T rs M0 M) (ha : T[a]? = some (.inr (a, 2, 8, J, 0))) (ha99 : a ≠ 99) (ha4 : 4 ≤ a) (h0 : 0 ≤ x.toInt) (h1 : x.toInt < (8 : Nat)) (hb : T[b]? = some (.inl (3, q, t, m, J.toNat))) (hr : a ∈ rs) (kk : ∀ M1, z_X T rs M0 M1 → z_ke T [a] M M1 → z_O M1 a = z_updR (z_O M a) x.toNatClampNeg (some b) → z_sz M1 = z_sz M → z_ev d j (pc + 1) L r M1 K) : z_ev d j pc L (.ref b :: .int x :: .ref a :: r) M K := by
  obtain ⟨f, e1, e2, e3⟩ := hX.1.aa ha ha99 (by decide)
  obtain ⟨fs, h3, h4, h5, h6, h7⟩ := hX.1.ob hb
  obtain ⟨g1, g2⟩ := z_asg (x := x) (b := b) hX ha e1 e3 ⟨q, t, m, hb⟩ hr
  refine z_eas (z_dc1 ht hk) e1 h3 (z_inr h0 h1) ha4 h7 (Or.inl ⟨rfl, rfl⟩) (kk _ g1 g2 ?_ (z_sz_set e1 rfl))
  rw [e2]
  unfold z_O
  rw [z_gs1 e1]
/-- an agenda is seated: what is left of the invariant -/
theorem z_seat {T T3 : List zK} {M M5 : zH} {a N1 N3 : Nat} {A u : Int32} (hA : z_GG T M ∧ z_GL M ∧ z_G4 M ∧ z_F M 4 5 = z_F M 19 21) (hW : z_W M5 T3) (ke : z_ke T [10, 11, 1003] M M5) (hA0 : z_F M 4 3 = some (.int A)) (hu : z_F M5 4 3 = some (.int u)) (hu1 : u.toInt = A.toInt + 1) (a0 : 0 ≤ A.toInt)
    (o10 : z_O M5 10 = z_updR (z_O M 10) A.toNatClampNeg (some N1)) (o11 : z_O M5 11 = z_updR (z_O M 11) A.toNatClampNeg (some N3)) (g1 : z_F M5 N1 0 = some (.ref a)) (g3 : z_F M5 N3 0 = some (.ref a)) : z_GG T3 M5 ∧ z_GL M5 ∧ z_G4 M5 ∧ z_F M5 4 5 = z_F M5 19 21 := by
  have h0 := hA.1.1
  have k4 := h0.k (k := 4) (κ := .inl (0, 0, 0, 0, 0)) rfl (by decide)
  have k10 := h0.k (k := 10) (κ := .inr (10, 2, 8, 9, 0)) rfl (by decide)
  have k11 := h0.k (k := 11) (κ := .inr (11, 2, 8, 5, 0)) rfl (by decide)
  have k12 := h0.k (k := 12) (κ := .inr (12, 3, 20, 0, 0)) rfl (by decide)
  have k19 := h0.k (k := 19) (κ := .inl (12, 0, 0, 0, 0)) rfl (by decide)
  have k23 := h0.k (k := 23) (κ := z_af 23 80) rfl (by decide)
  have k24 := h0.k (k := 24) (κ := z_ai 24 8 0 10) rfl (by decide)
  have k31 := h0.k (k := 31) (κ := z_ai 31 8 0 1024) rfl (by decide)
  have e5 : z_F M5 4 5 = z_F M 4 5 := ke.1 4 0 0 0 0 0 5 k4 (by decide)
  have e21 : z_F M5 19 21 = z_F M 19 21 := ke.1 19 12 0 0 0 0 21 k19 (by decide)
  have e13 : z_F M5 19 13 = z_F M 19 13 := ke.1 19 12 0 0 0 0 13 k19 (by decide)
  refine ⟨⟨hW, ⟨?_, ?_⟩, ?_⟩, ?_, ?_, by rw [e5, e21]; exact hA.2.2.2⟩
  · intro B hB i i0 i1
    rw [hu] at hB
    cases hB
    rw [o10, o11]
    unfold z_updR
    by_cases hi : i.toNatClampNeg = A.toNatClampNeg
    · rw [if_pos hi, if_pos hi]; exact ⟨(fun h => nomatch h), (fun h => nomatch h)⟩
    · rw [if_neg hi, if_neg hi]
      refine hA.1.2.1.1 A hA0 i i0 ?_
      unfold Int32.toNatClampNeg at hi
      omega
  · rw [e5, ke.o k12 (by decide)]
    exact hA.1.2.1.2
  · intro i b c hi hb hc
    rw [o10] at hb
    rw [o11] at hc
    unfold z_updR at hb hc
    by_cases h : i = A.toNatClampNeg
    · rw [if_pos h] at hb hc
      cases hb
      cases hc
      rw [g1, g3]
    · rw [if_neg h] at hb hc
      obtain ⟨f, l1, l2, l3⟩ := h0.aa k10 (by decide) (by decide)
      obtain ⟨f2, l4, l5, l6⟩ := h0.aa k11 (by decide) (by decide)
      obtain ⟨q1, t1, m1, kb⟩ : ∃ q t m, T[b]? = some (.inl (3, q, t, m, 9)) := l3 i b hi (by rw [← l2]; exact hb)
      obtain ⟨q2, t2, m2, kc⟩ : ∃ q t m, T[c]? = some (.inl (3, q, t, m, 5)) := l6 i c hi (by rw [← l5]; exact hc)
      rw [ke.1 b 3 q1 t1 m1 9 0 kb (by decide), ke.1 c 3 q2 t2 m2 5 0 kc (by decide)]
      exact hA.1.2.2 i b c hi hb hc
  · unfold z_GL
    rw [ke.a k23 (by decide), ke.a k24 (by decide)]
    exact hA.2.1
  · unfold z_G4
    rw [e13, ke.a k31 (by decide)]
    exact hA.2.2.1

theorem z_kbo {M es : zH} {T : List zK} (h : z_W M T) {a r : Nat} {x : Nat × Nat × Int × Int} (ha : T[a]? = some (.inr (r, x))) : z_O (M ++ es) a = z_O M a := by
  unfold z_O
  rw [List.getElem?_append_left (by have := (List.getElem?_eq_some_iff.mp ha).1; rw [h.1]; exact this)]
theorem z_szb {M : zH} {a m : Nat} {es : zH} (N : Nat) (he : es = [.inr (3, [.ref a, .ref (N + 1), .ref (N + 2), .ref (N + 3), .int 0, .ref (N + 4), .ref (N + 5), .ref (N + 6), .ref (N + 7), .ref (N + 10), .ref (N + 8), .ref (N + 9)]), .inl (0, 9, .inl fun _ => 0), .inl (0, 9, .inl fun _ => 0), .inl (0, 9, .inl fun _ => 0), .inl (0, 10, .inl fun _ => 0), .inl (0, 32, .inl fun _ => 0), .inl (0, 32, .inl fun _ => 0), .inl (0, 10, .inl fun _ => 0), .inl (0, 5, .inl fun _ => 0), .inl (0, 80, .inl fun _ => 0), .inl (1, z_sp m, .inr (.inl fun _ => 0))]) : z_sz (M ++ es) = z_sz M + (208 + z_sp m) := by
  subst he
  have h3 : z_nf 3 = 12 := by decide
  simp [z_sz, z_cz, h3]
  omega
theorem z_nwo {M : zH} {T : List zK} {d j pc : Nat} {L : zL} {S : zS} {K : Option Value → zH → Prop} (hW : z_W M T) {a q t m : Nat} (ka : T[a]? = some (.inl (2, q, t, m, 0))) (hm : 1 ≤ m) (kk : ∀ (fs : List Value) (x : Int32), M[a]? = some (.inr (2, fs)) → 4 ≤ a → 4 ≤ M.length → fs[10]? = some (.int x) → ¬ (x < 0 ∨ 1000000 < x.toNatClampNeg) → x.toNatClampNeg = z_sp m → z_ev d j pc L S M K) : z_ev d j pc L S M K := by
  obtain ⟨fs, g1, g2, g3, g4, g5⟩ := hW.ob ka
  obtain ⟨v, q1, q2⟩ := hW.fld ka (k := 10) (by decide)
  have hm2 := (g3.2.1 (Or.inl rfl)).2.2.2
  have hsp : z_sp m ≤ 16 := by unfold z_sp; omega
  unfold z_F at q1
  rw [g1] at q1
  match v, q2 with
  | .int x, q2 =>
    have h1 : (z_sp m : Int) ≤ x.toInt := q2.1
    have h2 : x.toInt ≤ (z_sp m : Int) := q2.2
    have h3 : x.toNatClampNeg = z_sp m := by unfold Int32.toNatClampNeg; omega
    exact kk fs x g1 g5 (by rw [hW.1]; have := hW.ge; omega) q1 (by rw [h3]; exact fun h => h.elim (fun h => by have := Int32.lt_iff_toInt_lt.mp h; rw [show (0 : Int32).toInt = 0 from rfl] at this; omega) (fun h => by omega)) h3
theorem zA29 {T : List zK} {d : Nat} {K : Option Value → zH → Prop} {a q t m : Nat} {A : Int32} {M : zH} (hA : z_GG T M ∧ z_GL M ∧ z_G4 M ∧ z_F M 4 5 = z_F M 19 21) (ka : T[a]? = some (.inl (2, q, t, m, 0))) (hA0 : z_F M 4 3 = some (.int A)) (a0 : 0 ≤ A.toInt) (a8 : A.toInt < 8) (kk : ∀ (y : Int32) (T1 : List zK) (M1 : zH), z_GG T1 M1 ∧ z_GL M1 ∧ z_G4 M1 ∧ z_F M1 4 5 = z_F M1 19 21 → (∀ (a : Nat) (κ : zK), T[a]? = some κ → T1[a]? = some κ) → z_ke T ([10, 11, 1003] ++ zw30) M M1 → z_pot M1 = z_pot M → (M1.length = M.length ∨ (M1.length ≤ M.length + 22 ∧ z_sz M1 ≤ z_sz M + 448)) → K (some (.int y)) M1) : z_ev (d + 3) 29 0 [some (.ref 4), some (.ref a)] [] M K := by
  have hW := hA.1.1
  have X : z_X T zw30 M M := .refl hW
  have g0 := hW.p2 ka
  have k4 : T[4]? = some (.inl (0, 0, 0, 0, 0)) := hW.k rfl (by decide)
  have k10 : T[10]? = some (.inr (10, 2, 8, 9, 0)) := hW.k rfl (by decide)
  have k11 : T[11]? = some (.inr (11, 2, 8, 5, 0)) := hW.k rfl (by decide)
  refine z_xP zt29 0 1 [some (.ref 4), some (.ref a)] [.ref a] rfl rfl ?_
  refine z_xgR (κ := .inr (102, 0, m, 0, 1023)) zt29 1 rfl zo29 zzf0_74 X ka (by decide) (by decide) rfl (fun (b : Nat) h1 kb => ?_)
  refine z_xln zt29 2 rfl X kb (by decide) (by omega) (fun (x : Int32) (hx : x.toInt = ((m : Nat) : Int)) => ?_)
  refine z_xZ zt29 3 rfl rfl (fun (h2 : x.toInt ≠ 0) => ?_) (fun (h2 : x.toInt = 0) => ?_)
  rotate_left
  · refine z_xP zt29 4 12 [some (.ref 4), some (.ref a)] [.ref a, .int (-1000)] rfl rfl ?_
    refine z_xcV (vs := [.ref a]) (r := [.int (-1000)]) (L2 := [some (.ref a), none, none, none, none, none]) zt29 5 rfl zo29 zzcV0_79 (Or.inl rfl) rfl X ka rfl rfl rfl (Nat.le_of_ble_eq_true rfl) zzm30 (Nat.le_of_ble_eq_true rfl) rfl ?_
    refine zC30 hW ka (fun y M1 X1 y0 y1 => ?_)
    show z_ev (d + 3) 29 15 [some (.ref 4), some (.ref a)] [.int y, .int (-1000)] M1 _
    have q1000 : ((-1000) : Int32).toInt = -1000 := rfl
    refine z_xI zt29 6 rfl rfl (P := fun _ => True) (fun z _ => ?_) trivial
    exact z_xri zt29 7 rfl zzr29 (kk z T M1 (z_kee hA X1 (by decide)) (fun _ _ h => h) ((z_ke.refl (rs := ([10, 11, 1003] ++ zw30))).trans X1.2 (z_sb (by decide))) (z_kep X1 (by decide)) (Or.inl (X1.1.1.trans hW.1.symm)))
  · refine z_xP zt29 8 18 [some (.ref 4), some (.ref a)] [.ref 4] rfl rfl ?_
    have hm : 1 ≤ m := by omega
    have hsp : z_sp m ≤ 16 := by unfold z_sp; omega
    refine z_xgX (b := 10) zt29 9 rfl zo29 zzf0_18 X k4 (by decide) (by decide) rfl ?_
    refine z_xP zt29 10 22 [some (.ref 4), some (.ref a)] [.ref 4, .ref 10] rfl rfl ?_
    refine z_xgv zt29 11 rfl zo29 zzf0_59 X k4 (by decide) hA0 ?_
    refine z_nwo hW ka hm (fun fs sx g1 ga gN gs gn gk => ?_)
    refine z_enew (N := M.length) (fs := [.null, .null, .null, .null, .int 0, .null, .null, .null, .null, .null, .null, .null]) (z_dc1 zt29 (n := 12) rfl) (by rw [zo29]; exact zzw0_16) rfl rfl ?_
    refine z_xP zt29 13 30 [some (.ref 4), some (.ref a)] [.ref a, .ref M.length, .ref M.length, .int A, .ref 10] rfl rfl ?_
    refine z_ecI (vs := [.ref M.length, .ref a]) (r := [.ref M.length, .int A, .ref 10]) (L2 := [some (.ref M.length), some (.ref a)]) (z_dc1 zt29 (n := 14) rfl) (by rw [zo29]; exact zzcI0_82) (by decide) rfl z_geto gN rfl rfl (Nat.le_of_ble_eq_true rfl) zzm33 (Nat.le_of_ble_eq_true rfl) rfl ?_
    refine zA33 gN g1 ga gs gn gk ?_
    show z_ev (d + 3) 29 33 [some (.ref 4), some (.ref a)] [.ref M.length, .int A, .ref 10] _ _
    have hW1 : z_W (M ++ ([.inr (3, [.ref a, .ref (M.length + 1), .ref (M.length + 2), .ref (M.length + 3), .int 0, .ref (M.length + 4), .ref (M.length + 5), .ref (M.length + 6), .ref (M.length + 7), .ref (M.length + 10), .ref (M.length + 8), .ref (M.length + 9)]), .inl (0, 9, .inl fun _ => 0), .inl (0, 9, .inl fun _ => 0), .inl (0, 9, .inl fun _ => 0), .inl (0, 10, .inl fun _ => 0), .inl (0, 32, .inl fun _ => 0), .inl (0, 32, .inl fun _ => 0), .inl (0, 10, .inl fun _ => 0), .inl (0, 5, .inl fun _ => 0), .inl (0, 80, .inl fun _ => 0), .inl (1, z_sp m, .inr (.inl fun _ => 0))] : zH)) (T ++ [(.inl (3, q, t, m, 9) : zK), z_af 201 9, z_af 202 9, z_af 203 9, z_af 205 10, z_af 206 32, z_af 207 32, z_ai 208 10 0 (q - 1), z_ai 210 5 0 (m - 1), z_af 211 80, z_al 209 (z_sp m)]) := z_bench hW ka hm (Or.inl rfl) rfl
    have z1 : z_sz (M ++ ([.inr (3, [.ref a, .ref (M.length + 1), .ref (M.length + 2), .ref (M.length + 3), .int 0, .ref (M.length + 4), .ref (M.length + 5), .ref (M.length + 6), .ref (M.length + 7), .ref (M.length + 10), .ref (M.length + 8), .ref (M.length + 9)]), .inl (0, 9, .inl fun _ => 0), .inl (0, 9, .inl fun _ => 0), .inl (0, 9, .inl fun _ => 0), .inl (0, 10, .inl fun _ => 0), .inl (0, 32, .inl fun _ => 0), .inl (0, 32, .inl fun _ => 0), .inl (0, 10, .inl fun _ => 0), .inl (0, 5, .inl fun _ => 0), .inl (0, 80, .inl fun _ => 0), .inl (1, z_sp m, .inr (.inl fun _ => 0))] : zH)) = z_sz M + (208 + z_sp m) := z_szb M.length rfl
    have kb1 : z_ke T [] M (M ++ ([.inr (3, [.ref a, .ref (M.length + 1), .ref (M.length + 2), .ref (M.length + 3), .int 0, .ref (M.length + 4), .ref (M.length + 5), .ref (M.length + 6), .ref (M.length + 7), .ref (M.length + 10), .ref (M.length + 8), .ref (M.length + 9)]), .inl (0, 9, .inl fun _ => 0), .inl (0, 9, .inl fun _ => 0), .inl (0, 9, .inl fun _ => 0), .inl (0, 10, .inl fun _ => 0), .inl (0, 32, .inl fun _ => 0), .inl (0, 32, .inl fun _ => 0), .inl (0, 10, .inl fun _ => 0), .inl (0, 5, .inl fun _ => 0), .inl (0, 80, .inl fun _ => 0), .inl (1, z_sp m, .inr (.inl fun _ => 0))] : zH)) := z_ke.block hW
    have kB1 : z_ke T [10, 11, 1003] M (M ++ ([.inr (3, [.ref a, .ref (M.length + 1), .ref (M.length + 2), .ref (M.length + 3), .int 0, .ref (M.length + 4), .ref (M.length + 5), .ref (M.length + 6), .ref (M.length + 7), .ref (M.length + 10), .ref (M.length + 8), .ref (M.length + 9)]), .inl (0, 9, .inl fun _ => 0), .inl (0, 9, .inl fun _ => 0), .inl (0, 9, .inl fun _ => 0), .inl (0, 10, .inl fun _ => 0), .inl (0, 32, .inl fun _ => 0), .inl (0, 32, .inl fun _ => 0), .inl (0, 10, .inl fun _ => 0), .inl (0, 5, .inl fun _ => 0), .inl (0, 80, .inl fun _ => 0), .inl (1, z_sp m, .inr (.inl fun _ => 0))] : zH)) := z_ke.block hW
    have eN1 : z_F (M ++ ([.inr (3, [.ref a, .ref (M.length + 1), .ref (M.length + 2), .ref (M.length + 3), .int 0, .ref (M.length + 4), .ref (M.length + 5), .ref (M.length + 6), .ref (M.length + 7), .ref (M.length + 10), .ref (M.length + 8), .ref (M.length + 9)]), .inl (0, 9, .inl fun _ => 0), .inl (0, 9, .inl fun _ => 0), .inl (0, 9, .inl fun _ => 0), .inl (0, 10, .inl fun _ => 0), .inl (0, 32, .inl fun _ => 0), .inl (0, 32, .inl fun _ => 0), .inl (0, 10, .inl fun _ => 0), .inl (0, 5, .inl fun _ => 0), .inl (0, 80, .inl fun _ => 0), .inl (1, z_sp m, .inr (.inl fun _ => 0))] : zH)) M.length 0 = some (.ref a) := by unfold z_F; rw [z_geto]; rfl
    have kN1 : (T ++ [(.inl (3, q, t, m, 9) : zK), z_af 201 9, z_af 202 9, z_af 203 9, z_af 205 10, z_af 206 32, z_af 207 32, z_ai 208 10 0 (q - 1), z_ai 210 5 0 (m - 1), z_af 211 80, z_al 209 (z_sp m)])[M.length]? = some (.inl (3, q, t, m, 9)) := by rw [hW.1, List.getElem?_append_right (Nat.le_refl _), Nat.sub_self]; rfl
    have l1 : (M ++ ([.inr (3, [.ref a, .ref (M.length + 1), .ref (M.length + 2), .ref (M.length + 3), .int 0, .ref (M.length + 4), .ref (M.length + 5), .ref (M.length + 6), .ref (M.length + 7), .ref (M.length + 10), .ref (M.length + 8), .ref (M.length + 9)]), .inl (0, 9, .inl fun _ => 0), .inl (0, 9, .inl fun _ => 0), .inl (0, 9, .inl fun _ => 0), .inl (0, 10, .inl fun _ => 0), .inl (0, 32, .inl fun _ => 0), .inl (0, 32, .inl fun _ => 0), .inl (0, 10, .inl fun _ => 0), .inl (0, 5, .inl fun _ => 0), .inl (0, 80, .inl fun _ => 0), .inl (1, z_sp m, .inr (.inl fun _ => 0))] : zH)).length = M.length + 11 := List.length_append ..
    have p1 : ∀ (a : Nat) (κ : zK), T[a]? = some κ → (T ++ [(.inl (3, q, t, m, 9) : zK), z_af 201 9, z_af 202 9, z_af 203 9, z_af 205 10, z_af 206 32, z_af 207 32, z_ai 208 10 0 (q - 1), z_ai 210 5 0 (m - 1), z_af 211 80, z_al 209 (z_sp m)])[a]? = some κ := z_pfx
    generalize hM1 : (M ++ ([.inr (3, [.ref a, .ref (M.length + 1), .ref (M.length + 2), .ref (M.length + 3), .int 0, .ref (M.length + 4), .ref (M.length + 5), .ref (M.length + 6), .ref (M.length + 7), .ref (M.length + 10), .ref (M.length + 8), .ref (M.length + 9)]), .inl (0, 9, .inl fun _ => 0), .inl (0, 9, .inl fun _ => 0), .inl (0, 9, .inl fun _ => 0), .inl (0, 10, .inl fun _ => 0), .inl (0, 32, .inl fun _ => 0), .inl (0, 32, .inl fun _ => 0), .inl (0, 10, .inl fun _ => 0), .inl (0, 5, .inl fun _ => 0), .inl (0, 80, .inl fun _ => 0), .inl (1, z_sp m, .inr (.inl fun _ => 0))] : zH)) = M1 at *
    generalize hT1 : (T ++ [(.inl (3, q, t, m, 9) : zK), z_af 201 9, z_af 202 9, z_af 203 9, z_af 205 10, z_af 206 32, z_af 207 32, z_ai 208 10 0 (q - 1), z_ai 210 5 0 (m - 1), z_af 211 80, z_al 209 (z_sp m)]) = T1 at *
    have X1 : z_X T1 [10, 11, 1003] M1 M1 := .refl hW1
    refine z_xasG (q := q) (t := t) (m := m) zt29 15 rfl X1 (p1 _ _ k10) (by decide) (by decide) a0 (by omega) kN1 (by decide) (fun M2 X2 ke2 o10 s2 => ?_)
    have a2 : z_F M2 4 3 = some (.int A) := ke2.f (p1 _ _ k4) (by decide) ((kb1.1 4 0 0 0 0 0 3 k4 (by decide)).trans hA0)
    have ka1 := p1 _ _ ka
    refine z_xP zt29 16 35 [some (.ref 4), some (.ref a)] [.ref 4] rfl rfl ?_
    refine z_xgX (b := 11) zt29 17 rfl zo29 zzf0_22 X2 (p1 _ _ k4) (by decide) (by decide) rfl ?_
    refine z_xP zt29 18 39 [some (.ref 4), some (.ref a)] [.ref 4, .ref 11] rfl rfl ?_
    refine z_xgv zt29 19 rfl zo29 zzf0_59 X2 (p1 _ _ k4) (by decide) a2 ?_
    refine z_nwo X2.1 ka1 hm (fun fs2 sx2 g1b gab gNb gsb gnb gkb => ?_)
    refine z_enew (N := M2.length) (fs := [.null, .null, .null, .null, .int 0, .null, .null, .null, .null, .null, .null, .null]) (z_dc1 zt29 (n := 20) rfl) (by rw [zo29]; exact zzw0_16) rfl rfl ?_
    refine z_xP zt29 21 47 [some (.ref 4), some (.ref a)] [.ref a, .ref M2.length, .ref M2.length, .int A, .ref 11] rfl rfl ?_
    refine z_ecI (vs := [.ref M2.length, .ref a]) (r := [.ref M2.length, .int A, .ref 11]) (L2 := [some (.ref M2.length), some (.ref a)]) (z_dc1 zt29 (n := 22) rfl) (by rw [zo29]; exact zzcI0_82) (by decide) rfl z_geto gNb rfl rfl (Nat.le_of_ble_eq_true rfl) zzm33 (Nat.le_of_ble_eq_true rfl) rfl ?_
    refine zA33 gNb g1b gab gsb gnb gkb ?_
    show z_ev (d + 3) 29 50 [some (.ref 4), some (.ref a)] [.ref M2.length, .int A, .ref 11] _ _
    have hW3 : z_W (M2 ++ ([.inr (3, [.ref a, .ref (M2.length + 1), .ref (M2.length + 2), .ref (M2.length + 3), .int 0, .ref (M2.length + 4), .ref (M2.length + 5), .ref (M2.length + 6), .ref (M2.length + 7), .ref (M2.length + 10), .ref (M2.length + 8), .ref (M2.length + 9)]), .inl (0, 9, .inl fun _ => 0), .inl (0, 9, .inl fun _ => 0), .inl (0, 9, .inl fun _ => 0), .inl (0, 10, .inl fun _ => 0), .inl (0, 32, .inl fun _ => 0), .inl (0, 32, .inl fun _ => 0), .inl (0, 10, .inl fun _ => 0), .inl (0, 5, .inl fun _ => 0), .inl (0, 80, .inl fun _ => 0), .inl (1, z_sp m, .inr (.inl fun _ => 0))] : zH)) (T1 ++ [(.inl (3, q, t, m, 5) : zK), z_af 201 9, z_af 202 9, z_af 203 9, z_af 205 10, z_af 206 32, z_af 207 32, z_ai 208 10 0 (q - 1), z_ai 210 5 0 (m - 1), z_af 211 80, z_al 209 (z_sp m)]) := z_bench X2.1 ka1 hm (Or.inr rfl) rfl
    have z3 : z_sz (M2 ++ ([.inr (3, [.ref a, .ref (M2.length + 1), .ref (M2.length + 2), .ref (M2.length + 3), .int 0, .ref (M2.length + 4), .ref (M2.length + 5), .ref (M2.length + 6), .ref (M2.length + 7), .ref (M2.length + 10), .ref (M2.length + 8), .ref (M2.length + 9)]), .inl (0, 9, .inl fun _ => 0), .inl (0, 9, .inl fun _ => 0), .inl (0, 9, .inl fun _ => 0), .inl (0, 10, .inl fun _ => 0), .inl (0, 32, .inl fun _ => 0), .inl (0, 32, .inl fun _ => 0), .inl (0, 10, .inl fun _ => 0), .inl (0, 5, .inl fun _ => 0), .inl (0, 80, .inl fun _ => 0), .inl (1, z_sp m, .inr (.inl fun _ => 0))] : zH)) = z_sz M2 + (208 + z_sp m) := z_szb M2.length rfl
    have kb3 : z_ke T1 [] M2 (M2 ++ ([.inr (3, [.ref a, .ref (M2.length + 1), .ref (M2.length + 2), .ref (M2.length + 3), .int 0, .ref (M2.length + 4), .ref (M2.length + 5), .ref (M2.length + 6), .ref (M2.length + 7), .ref (M2.length + 10), .ref (M2.length + 8), .ref (M2.length + 9)]), .inl (0, 9, .inl fun _ => 0), .inl (0, 9, .inl fun _ => 0), .inl (0, 9, .inl fun _ => 0), .inl (0, 10, .inl fun _ => 0), .inl (0, 32, .inl fun _ => 0), .inl (0, 32, .inl fun _ => 0), .inl (0, 10, .inl fun _ => 0), .inl (0, 5, .inl fun _ => 0), .inl (0, 80, .inl fun _ => 0), .inl (1, z_sp m, .inr (.inl fun _ => 0))] : zH)) := z_ke.block X2.1
    have kB3 : z_ke T1 [10, 11, 1003] M2 (M2 ++ ([.inr (3, [.ref a, .ref (M2.length + 1), .ref (M2.length + 2), .ref (M2.length + 3), .int 0, .ref (M2.length + 4), .ref (M2.length + 5), .ref (M2.length + 6), .ref (M2.length + 7), .ref (M2.length + 10), .ref (M2.length + 8), .ref (M2.length + 9)]), .inl (0, 9, .inl fun _ => 0), .inl (0, 9, .inl fun _ => 0), .inl (0, 9, .inl fun _ => 0), .inl (0, 10, .inl fun _ => 0), .inl (0, 32, .inl fun _ => 0), .inl (0, 32, .inl fun _ => 0), .inl (0, 10, .inl fun _ => 0), .inl (0, 5, .inl fun _ => 0), .inl (0, 80, .inl fun _ => 0), .inl (1, z_sp m, .inr (.inl fun _ => 0))] : zH)) := z_ke.block X2.1
    have eN3 : z_F (M2 ++ ([.inr (3, [.ref a, .ref (M2.length + 1), .ref (M2.length + 2), .ref (M2.length + 3), .int 0, .ref (M2.length + 4), .ref (M2.length + 5), .ref (M2.length + 6), .ref (M2.length + 7), .ref (M2.length + 10), .ref (M2.length + 8), .ref (M2.length + 9)]), .inl (0, 9, .inl fun _ => 0), .inl (0, 9, .inl fun _ => 0), .inl (0, 9, .inl fun _ => 0), .inl (0, 10, .inl fun _ => 0), .inl (0, 32, .inl fun _ => 0), .inl (0, 32, .inl fun _ => 0), .inl (0, 10, .inl fun _ => 0), .inl (0, 5, .inl fun _ => 0), .inl (0, 80, .inl fun _ => 0), .inl (1, z_sp m, .inr (.inl fun _ => 0))] : zH)) M2.length 0 = some (.ref a) := by unfold z_F; rw [z_geto]; rfl
    have kN3 : (T1 ++ [(.inl (3, q, t, m, 5) : zK), z_af 201 9, z_af 202 9, z_af 203 9, z_af 205 10, z_af 206 32, z_af 207 32, z_ai 208 10 0 (q - 1), z_ai 210 5 0 (m - 1), z_af 211 80, z_al 209 (z_sp m)])[M2.length]? = some (.inl (3, q, t, m, 5)) := by rw [X2.1.1, List.getElem?_append_right (Nat.le_refl _), Nat.sub_self]; rfl
    have l3 : (M2 ++ ([.inr (3, [.ref a, .ref (M2.length + 1), .ref (M2.length + 2), .ref (M2.length + 3), .int 0, .ref (M2.length + 4), .ref (M2.length + 5), .ref (M2.length + 6), .ref (M2.length + 7), .ref (M2.length + 10), .ref (M2.length + 8), .ref (M2.length + 9)]), .inl (0, 9, .inl fun _ => 0), .inl (0, 9, .inl fun _ => 0), .inl (0, 9, .inl fun _ => 0), .inl (0, 10, .inl fun _ => 0), .inl (0, 32, .inl fun _ => 0), .inl (0, 32, .inl fun _ => 0), .inl (0, 10, .inl fun _ => 0), .inl (0, 5, .inl fun _ => 0), .inl (0, 80, .inl fun _ => 0), .inl (1, z_sp m, .inr (.inl fun _ => 0))] : zH)).length = M2.length + 11 := List.length_append ..
    have p3 : ∀ (a : Nat) (κ : zK), T1[a]? = some κ → (T1 ++ [(.inl (3, q, t, m, 5) : zK), z_af 201 9, z_af 202 9, z_af 203 9, z_af 205 10, z_af 206 32, z_af 207 32, z_ai 208 10 0 (q - 1), z_ai 210 5 0 (m - 1), z_af 211 80, z_al 209 (z_sp m)])[a]? = some κ := z_pfx
    have i10 : z_O (M2 ++ ([.inr (3, [.ref a, .ref (M2.length + 1), .ref (M2.length + 2), .ref (M2.length + 3), .int 0, .ref (M2.length + 4), .ref (M2.length + 5), .ref (M2.length + 6), .ref (M2.length + 7), .ref (M2.length + 10), .ref (M2.length + 8), .ref (M2.length + 9)]), .inl (0, 9, .inl fun _ => 0), .inl (0, 9, .inl fun _ => 0), .inl (0, 9, .inl fun _ => 0), .inl (0, 10, .inl fun _ => 0), .inl (0, 32, .inl fun _ => 0), .inl (0, 32, .inl fun _ => 0), .inl (0, 10, .inl fun _ => 0), .inl (0, 5, .inl fun _ => 0), .inl (0, 80, .inl fun _ => 0), .inl (1, z_sp m, .inr (.inl fun _ => 0))] : zH)) 10 = z_O M2 10 := z_kbo X2.1 (p1 _ _ k10)
    have i11 : z_O (M2 ++ ([.inr (3, [.ref a, .ref (M2.length + 1), .ref (M2.length + 2), .ref (M2.length + 3), .int 0, .ref (M2.length + 4), .ref (M2.length + 5), .ref (M2.length + 6), .ref (M2.length + 7), .ref (M2.length + 10), .ref (M2.length + 8), .ref (M2.length + 9)]), .inl (0, 9, .inl fun _ => 0), .inl (0, 9, .inl fun _ => 0), .inl (0, 9, .inl fun _ => 0), .inl (0, 10, .inl fun _ => 0), .inl (0, 32, .inl fun _ => 0), .inl (0, 32, .inl fun _ => 0), .inl (0, 10, .inl fun _ => 0), .inl (0, 5, .inl fun _ => 0), .inl (0, 80, .inl fun _ => 0), .inl (1, z_sp m, .inr (.inl fun _ => 0))] : zH)) 11 = z_O M2 11 := z_kbo X2.1 (p1 _ _ k11)
    generalize hM3 : (M2 ++ ([.inr (3, [.ref a, .ref (M2.length + 1), .ref (M2.length + 2), .ref (M2.length + 3), .int 0, .ref (M2.length + 4), .ref (M2.length + 5), .ref (M2.length + 6), .ref (M2.length + 7), .ref (M2.length + 10), .ref (M2.length + 8), .ref (M2.length + 9)]), .inl (0, 9, .inl fun _ => 0), .inl (0, 9, .inl fun _ => 0), .inl (0, 9, .inl fun _ => 0), .inl (0, 10, .inl fun _ => 0), .inl (0, 32, .inl fun _ => 0), .inl (0, 32, .inl fun _ => 0), .inl (0, 10, .inl fun _ => 0), .inl (0, 5, .inl fun _ => 0), .inl (0, 80, .inl fun _ => 0), .inl (1, z_sp m, .inr (.inl fun _ => 0))] : zH)) = M3 at *
    generalize hT3 : (T1 ++ [(.inl (3, q, t, m, 5) : zK), z_af 201 9, z_af 202 9, z_af 203 9, z_af 205 10, z_af 206 32, z_af 207 32, z_ai 208 10 0 (q - 1), z_ai 210 5 0 (m - 1), z_af 211 80, z_al 209 (z_sp m)]) = T3 at *
    have X3 : z_X T3 [10, 11, 1003] M3 M3 := .refl hW3
    have k4c := p3 _ _ (p1 _ _ k4)
    refine z_ev.mono (z_ev.grow (K := fun v M5 => ∃ y u : Int32, v = some (.int y) ∧ z_F M5 4 3 = some (.int u) ∧ u.toInt = A.toInt + 1 ∧ z_X T3 [11, 1003] M3 M5 ∧ z_O M5 11 = z_updR (z_O M3 11) A.toNatClampNeg (some M2.length)) ?_) (fun v M5 ⟨⟨y, u, hv, hu, hu1, X5, o11⟩, hg, _⟩ => ?_)
    · have X3 : z_X T3 [11, 1003] M3 M3 := .refl hW3
      refine z_xasG (q := q) (t := t) (m := m) zt29 23 rfl X3 (p3 _ _ (p1 _ _ k11)) (by decide) (by decide) a0 (by omega) kN3 (by decide) (fun M4 X4 ke4 o11 _ => ?_)
      have a4 : z_F M4 4 3 = some (.int A) := ke4.f k4c (by decide) ((kb3.1 4 0 0 0 0 0 3 (p1 _ _ k4) (by decide)).trans a2)
      refine z_xP zt29 24 53 [some (.ref 4), some (.ref a)] [.ref 4, .ref 4] rfl rfl ?_
      refine z_xgv zt29 25 rfl zo29 zzf0_59 X4 k4c (by decide) a4 ?_
      refine z_xP zt29 26 57 [some (.ref 4), some (.ref a)] [.int 1, .int A, .ref 4] rfl rfl ?_
      refine z_xI zt29 27 rfl rfl (fun (u : Int32) (hu : u.toInt = A.toInt + 1) => ?_) (z_pAdd rfl rfl (by omega) (by omega))
      refine z_xpf zt29 28 rfl zo29 zzf0_59 X4 k4c (by decide) (by decide) (show 0 ≤ u.toInt ∧ u.toInt ≤ 8 from ⟨by omega, by omega⟩) rfl (by decide) zw0_3 (fun M5 X5 ke5 h5 => ?_)
      refine z_xP zt29 29 62 [some (.ref 4), some (.ref a)] [.ref 4] rfl rfl ?_
      refine z_xgv zt29 30 rfl zo29 zzf0_59 X5 k4c (by decide) h5 ?_
      refine z_xP zt29 31 66 [some (.ref 4), some (.ref a)] [.int 1, .int u] rfl rfl ?_
      refine z_xI zt29 32 rfl rfl (fun (y : Int32) (hy : y.toInt = u.toInt - 1) => ?_) (z_pSub rfl rfl (by omega) (by omega))
      exact z_xri zt29 33 rfl zzr29 ⟨y, u, rfl, h5, hu, X5, (ke5.o (p3 _ _ (p1 _ _ k11)) (by decide)).trans o11⟩
    · subst hv
      have kM2 : z_ke T [10, 11, 1003] M M2 := kB1.trans (ke2.sub p1) (z_sb (by decide))
      have kM3 : z_ke T [10, 11, 1003] M M3 := kM2.trans (kB3.sub p1) (z_sb (by decide))
      have kM5 : z_ke T [10, 11, 1003] M M5 := kM3.trans ((X5.2.sub p3).sub p1) (z_sb (by decide))
      have s3 : z_sz M5 = z_sz M3 := z_szg hg (X5.1.1.trans hW3.1.symm)
      have n2 : M2.length = M1.length := X2.1.1.trans hW1.1.symm
      have n5 : M5.length = M3.length := X5.1.1.trans hW3.1.symm
      refine kk y T3 M5 (z_seat (N1 := M.length) (N3 := M2.length) (a := a) hA X5.1 kM5 hA0 hu hu1 a0 ?_ ?_ ?_ ?_) (fun _ _ h => p3 _ _ (p1 _ _ h)) ((z_ke.refl (rs := ([10, 11, 1003] ++ zw30))).trans kM5 (z_sb (by decide))) (z_potF (kM5.1 4 0 0 0 0 0 12 k4 (by decide))) (Or.inr ⟨by omega, by omega⟩)
      · rw [X5.2.o (p3 _ _ (p1 _ _ k10)) (by decide), i10, o10, ← hM1, z_kbo hW k10]
      · rw [o11, i11, ke2.o (p1 _ _ k11) (by decide), ← hM1, z_kbo hW k11]
      · rw [X5.2.1 M.length 3 q t m 9 0 (p3 _ _ kN1) (by decide), kb3.1 M.length 3 q t m 9 0 kN1 (by decide), ke2.1 M.length 3 q t m 9 0 kN1 (by decide)]
        exact eN1
      · rw [X5.2.1 M2.length 3 q t m 5 0 kN3 (by decide)]
        exact eN3
