/-! what stands between calls on both sides: tapes and agendas -/
/-- the tapes and the agendas' numbers, and the words of the questions -/
def z_R5 (M : zH) : Prop := ∃ l l2 a a2 : Int32, z_F M 5 1 = some (.int l) ∧ z_F M 19 1 = some (.int l2) ∧ l2.toInt = l.toInt ∧ z_F M 4 3 = some (.int a) ∧ z_F M 19 13 = some (.int a2) ∧ a2.toInt = a.toInt ∧ (∀ j : Nat, (j : Int) < l.toInt → (z_Ar M 6 j).toInt = (z_Ar M 20 j).toInt ∧ 0 ≤ (z_Ar M 6 j).toInt ∧ (z_Ar M 6 j).toInt ≤ 255) ∧ ∀ q, q < 6 → z_Lg M 2 q = z_ty2.getD q 0
theorem z_R5.ke {M M1 : zH} {T : List zK} {rs : List Nat} (h : z_R5 M) (hW : z_W M T) (ke : z_ke T rs M M1) (hr : z_dj [1101, 2201, 1003, 2213, 6, 20, 2] rs = true) : z_R5 M1 := by
  have nr := z_djn hr
  have k2 := hW.k (k := 2) (κ := z_al 2 6) rfl (by decide)
  have k4 : T[4]? = some (.inl (0, 0, 0, 0, 0)) := hW.k rfl (by decide)
  have k5 : T[5]? = some (.inl (1, 0, 0, 0, 0)) := hW.k rfl (by decide)
  have k19 : T[19]? = some (.inl (12, 0, 0, 0, 0)) := hW.k rfl (by decide)
  have k6 := hW.k (k := 6) (κ := z_af 6 160) rfl (by decide)
  have k20 := hW.k (k := 20) (κ := z_af 20 160) rfl (by decide)
  obtain ⟨l, l2, a, a2, h1, h2, h3, h4, h5, h6, h7, h8⟩ := h
  refine ⟨l, l2, a, a2, ke.f k5 (nr _ (by decide)) h1, ke.f k19 (nr _ (by decide)) h2, h3, ke.f k4 (nr _ (by decide)) h4, ke.f k19 (nr _ (by decide)) h5, h6, ?_, ?_⟩
  · rw [ke.a k6 (nr _ (by decide)), ke.a k20 (nr _ (by decide))]
    exact h7
  · rw [ke.lg k2 (nr _ (by decide))]
    exact h8
def z_RR (T : List zK) (M : zH) : Prop := z_R5 M ∧ z_R6 T M ∧ z_R7 T M
def z_prA : List Nat := [1101, 2201, 1003, 2213, 6, 20, 2, 1202, 1203, 1205, 1207, 1208, 1209, 1211, 102, 108, 109, 111, 24, 25, 27, 28, 29, 30, 31, 10, 1300]
def z_prR : List Nat := z_prA ++ ([1003, 10, 201, 202, 203, 1304, 32, 33, 34, 35, 205, 206, 207] ++ z_bkf)
def z_J (M : zH) : Prop := ∃ T, z_inv T M ∧ z_RR T M ∧ z_R89 T M
theorem z_RR.ke {M M1 : zH} {T T1 : List zK} {rs : List Nat} (h : z_RR T M) (hW : z_W M T) (hp : ∀ (a : Nat) (κ : zK), T[a]? = some κ → T1[a]? = some κ) (hn : ∀ b q t m J : Nat, T1[b]? = some (.inl (3, q, t, m, J)) → T[b]? = some (.inl (3, q, t, m, J))) (ke : z_ke T rs M M1) (hr : z_dj z_prR rs = true) : z_RR T1 M1 :=
  ⟨h.1.ke hW ke (z_djs hr (by decide)), h.2.1.ke hW hp ke (z_djs hr (by decide)) (z_djs hr (by decide)) (z_djs hr (by decide)), h.2.2.ke hW hp (fun b q t m J hb => (h.2.2.1.ke ke (z_djs hr (by decide))) b q t m J (hn b q t m J hb)) ke (z_djs hr (by decide))⟩
theorem z_RR.go {M M1 : zH} {T : List zK} {rs : List Nat} (h : z_RR T M) (hW : z_W M T) (hX : z_X T rs M M1) (hr : z_dj z_prR rs = true) : z_RR T M1 := h.ke hW (fun _ _ h => h) (fun _ _ _ _ _ h => h) hX.2 hr
theorem z_RR.push1 {M : zH} {e : zE} {T : List zK} {κ : zK} (h : z_RR T M) (hW : z_W M T) (hW1 : z_W (M ++ [e]) (T ++ [κ])) (hk : ∀ q t m J : Nat, κ ≠ .inl (3, q, t, m, J)) : z_RR (T ++ [κ]) (M ++ [e]) := h.ke (rs := []) hW z_pfx (fun b q t m J hb => by
  by_cases c : b < T.length
  · rw [List.getElem?_append_left c] at hb
    exact hb
  · rw [List.getElem?_append_right (by omega)] at hb
    have h2 : (.inl (3, q, t, m, J) : zK) ∈ [κ] := List.mem_of_getElem? hb
    exact absurd (List.mem_singleton.mp h2).symm (hk q t m J)) (z_ke.block hW) rfl
theorem z_hn1 {M M3 : zH} {T T1 : List zK} {c : Nat} (hW : z_W M T) (hW3 : z_W M3 T1) (p1 : ∀ (a : Nat) (κ : zK), T[a]? = some κ → T1[a]? = some κ) (l1 : M3.length = M.length + 1) (tN : T1[M.length]? = some (.inl (c, 0, 0, 0, 0))) (hc : c ≠ 3) : ∀ b q t m J : Nat, T1[b]? = some (.inl (3, q, t, m, J)) → T[b]? = some (.inl (3, q, t, m, J)) := fun b q t m J hb => by
  have h1 := (List.getElem?_eq_some_iff.mp hb).1
  have h2 := hW.1
  have h3 := hW3.1
  by_cases cb : b < T.length
  · have h4 := p1 b (T[b]'cb) (List.getElem?_eq_getElem cb)
    rw [hb] at h4
    rw [List.getElem?_eq_getElem cb]
    exact h4.symm
  · rw [show b = M.length by omega, tN] at hb
    cases hb
    exact absurd rfl hc
/-- two calls that write nothing of what is told of both sides -/
theorem z_J.two {d j k : Nat} {L1 L2 : zL} {M : zH} {T : List zK} {A B : Option Value → Prop} {C : Option Value → Option Value → Prop} {r1 r2 : List Nat} (hA : z_inv T M) (hR : z_RR T M) (h9 : z_R89 T M) (hr1 : z_dj (z_prt ++ z_prR ++ [1012]) r1 = true) (hr2 : z_dj (z_prt ++ z_prR ++ [1012]) r2 = true)
    (h1 : z_ev d j 0 L1 [] M fun v M1 => A v ∧ z_X T r1 M M1 ∧ z_ev d k 0 L2 [] M1 fun v2 M2 => B v2 ∧ C v v2 ∧ z_X T r2 M1 M2) :
    z_ev d j 0 L1 [] M fun v M1 => A v ∧ z_ev d k 0 L2 [] M1 fun v2 M2 => B v2 ∧ C v v2 ∧ z_J M2 ∧ M2.length ≤ M.length + 1171 ∧ z_szr M2 ≤ z_szr M + 14000 := by
  have p1 := z_dja (z_dja hr1).1
  have p2 := z_dja (z_dja hr2).1
  refine z_twoG (h1.mono fun v M1 ⟨a1, X1, a2⟩ => ⟨a1, Or.inl ⟨X1.1.1.trans hA.1.1.1.symm, z_kep X1 (z_ro2 hr1)⟩, a2.mono fun v2 M2 ⟨b1, b2, X2⟩ => ⟨b1, b2, ⟨T, z_kee (z_kee hA X1 p1.1) X2 p2.1, (hR.go hA.1.1 X1 p1.2).go X1.1 X2 p2.2, (h9.go hR.2.2.1 hA.1.1 X1 (z_djs p1.2 (by decide))).go (hR.go hA.1.1 X1 p1.2).2.2.1 X1.1 X2 (z_djs p2.2 (by decide))⟩, X2.1.1.trans X1.1.1.symm, z_kep X2 (z_ro2 hr2)⟩⟩)
theorem z_kf3b : (z_kf.all fun κ => match κ with | .inl (ci, _) => ci != 3 | .inr _ => true) = true := by decide
theorem z_kf3 (b q t m J : Nat) : z_kf[b]? ≠ some (.inl (3, q, t, m, J)) := fun h => by
  have h2 := List.all_eq_true.mp z_kf3b _ (List.mem_of_getElem? h)
  exact absurd (show false = true from h2) Bool.false_ne_true
theorem z_freshJ : z_freshOk z_J := by
  intro L xs M hl hf h0
  obtain ⟨T, hA⟩ := z_freshI L xs M hl hf h0
  have e4 := z_qO (hf 4 (by decide) (by decide))
  have e5 := z_qO (hf 5 (by decide) (by decide))
  have e19 := z_qO (hf 19 (by decide) (by decide))
  refine ⟨T, hA, ⟨⟨0, 0, 0, 0, by unfold z_F; rw [e5]; rfl, by unfold z_F; rw [e19]; rfl, rfl, by unfold z_F; rw [e4]; rfl, by unfold z_F; rw [e19]; rfl, rfl, fun j h => absurd (show (j : Int) < 0 from h) (by omega), fun q _ => by unfold z_Lg; rw [h0 2 (by decide)]; rfl⟩, fun A hA a ha => ?_, ⟨fun b q t m J hb => ?_, fun A hA => ?_⟩⟩, fun b q t m hb => ?_⟩
  rotate_left
  · have h1 := (List.getElem?_eq_some_iff.mp hb).1
    have h2 := hA.1.1.1
    have h3 := hA.1.1.2.1 b (by omega)
    rw [hb] at h3
    exact absurd h3.symm (z_kf3 b q t m J)
  · have e : z_F M 4 3 = some (.int 0) := by unfold z_F; rw [e4]; rfl
    rw [e] at hA
    cases hA
    obtain ⟨f35, e35, g35⟩ := z_qI (hf 35 (by decide) (by decide))
    refine ⟨fun a ha => absurd (show (a : Int) < 0 from ha) (by omega), fun a a2 ha _ _ => absurd (show (a : Int) < 0 from ha) (by omega), fun a _ ha => ?_⟩
    unfold z_Ar
    rw [e35]
    show (f35 a).toInt = 0
    rw [g35 a ha]
    rfl
  · have h1 := (List.getElem?_eq_some_iff.mp hb).1
    have h2 := hA.1.1.1
    have h3 := hA.1.1.2.1 b (by omega)
    rw [hb] at h3
    exact absurd h3.symm (z_kf3 b q t m 9)
  have e : z_F M 4 3 = some (.int 0) := by unfold z_F; rw [e4]; rfl
  rw [e] at hA
  cases hA
  exact absurd (show (a : Int) < 0 from ha) (by omega)
theorem z_J4 {M : zH} (h : z_J M) : ∃ fs, M[4]? = some (.inr (0, fs)) := by
  obtain ⟨T, hA, _⟩ := h
  exact z_I4 ⟨T, hA⟩
theorem z_J19 {M : zH} (h : z_J M) : ∃ fs, M[19]? = some (.inr (12, fs)) := by
  obtain ⟨T, hA, _⟩ := h
  exact z_I19 ⟨T, hA⟩
