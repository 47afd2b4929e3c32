/-! the fresh heap keeps the invariant -/
def z_kq (a b : (Nat × Nat × Nat × Nat × Nat) ⊕ (Nat × Nat × Nat × Int × Int)) : Bool := decide (a = b)
def z_kqo (o : Option zK) (κ : zK) : Bool := match o with
  | some κ1 => z_kq κ1 κ
  | none => false
theorem z_kqk {o : Option zK} {κ : zK} (h : z_kqo o κ = true) : o = some κ := by
  match o, h with
  | some κ1, h => exact congrArg some (of_decide_eq_true (p := κ1 = κ) h)
def z_okb (s : zFS) (v : Value) : Bool := match s, v with
  | .inl (lo, hi), .int x => decide (lo ≤ x.toInt ∧ x.toInt ≤ hi)
  | .inr (.inl b), .ref a => decide (a = b)
  | .inr (.inr none), .long _ => true
  | .inr (.inr (some (_, κ))), .ref a => z_kqo (z_kf[a]?) κ
  | .inr (.inr (some (true, _))), .null => true
  | _, _ => false
theorem z_okb_ok {s : zFS} {v : Value} (h : z_okb s v = true) : z_okv z_kf s v := by
  match s, v, h with
  | .inl (lo, hi), .int x, h => exact of_decide_eq_true (p := lo ≤ x.toInt ∧ x.toInt ≤ hi) h
  | .inr (.inl b), .ref a, h => exact of_decide_eq_true (p := a = b) h
  | .inr (.inr none), .long _, _ => exact True.intro
  | .inr (.inr (some (true, κ))), .ref a, h => exact z_kqk h
  | .inr (.inr (some (false, κ))), .ref a, h => exact z_kqk h
  | .inr (.inr (some (true, _))), .null, _ => exact True.intro
def z_sk (s : zQ) (κ : zK) : Bool := match s, κ with
  | .inr (c, fs), .inl (ci, q, t, m, J) => decide (c = ci ∧ fs.length = z_nf ci ∧ ci < 13 ∧ ci ≠ 2 ∧ ci ≠ 3) && (List.range fs.length).all fun k => z_okb (z_fsp ci q t m J k) (fs.getD k .null)
  | .inl (t, n, v), .inr (r, tg, len, lo, hi) => decide (tg = t ∧ n = len ∧ (t = 0 → lo ≤ v.toInt ∧ v.toInt ≤ hi))
  | _, _ => false
theorem z_sk_ok {e : zE} {s : zQ} {κ : zK} (h : z_q e s = true) (hs : z_sk s κ = true) : z_wt z_kf κ e := by
  match e, s, κ, h, hs with
  | .inr (c, fs), .inr (c1, fs1), .inl (ci, q, t, m, J), h, hs =>
    obtain ⟨rfl, rfl⟩ := of_decide_eq_true h
    obtain ⟨h1, h2⟩ := Bool.and_eq_true_iff.mp hs
    obtain ⟨rfl, h3, h4, h5, h6⟩ := of_decide_eq_true h1
    refine ⟨rfl, h3, ⟨h4, fun z => by omega, fun z => by omega⟩, fun k v hk => ?_⟩
    have h7 := List.all_eq_true.mp h2 k (List.mem_range.mpr (List.getElem?_eq_some_iff.mp hk).1)
    have h8 : fs.getD k .null = v := by rw [List.getD_eq_getElem?_getD, hk]; rfl
    rw [h8] at h7
    exact z_okb_ok h7
  | .inl (t, n, .inl f), .inl (t1, n1, v), .inr (r, tg, len, lo, hi), h, hs =>
    obtain ⟨h1, h2⟩ := Bool.and_eq_true_iff.mp h
    obtain ⟨rfl, rfl, rfl⟩ := of_decide_eq_true h1
    obtain ⟨rfl, rfl, h3⟩ := of_decide_eq_true hs
    refine Or.inr ⟨rfl, rfl, rfl, fun i hi => ?_⟩
    rw [of_decide_eq_true (List.all_eq_true.mp h2 i (List.mem_range.mpr hi))]
    exact h3 rfl
  | .inl (t, n, .inr (.inl f)), .inl (t1, n1, v), .inr (r, tg, len, lo, hi), h, hs =>
    obtain ⟨h1, h2⟩ := Bool.and_eq_true_iff.mp h
    obtain ⟨rfl, rfl, rfl⟩ := of_decide_eq_true h1
    obtain ⟨rfl, rfl, h3⟩ := of_decide_eq_true hs
    exact Or.inr ⟨rfl, rfl, rfl⟩
  | .inl (t, n, .inr (.inr f)), .inl (t1, n1, v), .inr (r, tg, len, lo, hi), h, hs =>
    obtain ⟨h1, h2⟩ := Bool.and_eq_true_iff.mp h
    obtain ⟨rfl, h4, rfl⟩ := of_decide_eq_true h1
    obtain ⟨rfl, rfl, h3⟩ := of_decide_eq_true hs
    refine Or.inr ⟨rfl, h4, rfl, fun i a hi ha => ?_⟩
    rw [of_decide_eq_true (List.all_eq_true.mp h2 i (List.mem_range.mpr hi))] at ha
    cases ha
theorem z_sks : ((List.range 49).all fun k => z_sk (z_spec.getD k (.inl (0, 0, 0))) (z_kf.getD (k + 4) (.inr (0, 0, 0, 0, 0)))) = true := by decide +kernel
theorem z_ro1 : ((List.range 102).all fun i => decide (0 ≤ (z_tc.getD i 0).toInt ∧ (z_tc.getD i 0).toInt ≤ 4368)) = true := by decide +kernel
theorem z_ro3 : ((List.range 8).all fun i => decide ((-1) ≤ (z_tk3.getD i 0).toInt ∧ (z_tk3.getD i 0).toInt ≤ 5)) = true := by decide +kernel
theorem z_freshW {L : Nat} {xs : Nat → Int32} {M : zH} (hl : M.length = 53) (hf : z_fr M 4 53) (h0 : ∀ k, k < 4 → M[k]? = (z_M0 L xs)[k]?) : z_W M z_kf := by
  refine ⟨hl, fun k _ => rfl, fun k e κ hk hT => ?_⟩
  have h53 : k < 53 := by rw [← hl]; exact (List.getElem?_eq_some_iff.mp hk).1
  by_cases h4 : 4 ≤ k
  · have h1 := hf k h4 h53
    have h2 := List.all_eq_true.mp z_sks (k - 4) (List.mem_range.mpr (by omega))
    rw [hk] at h1
    have h3 : (z_kf.getD (k - 4 + 4) (.inr (0, 0, 0, 0, 0))) = κ := by rw [Nat.sub_add_cancel h4, List.getD_eq_getElem?_getD, hT]; rfl
    rw [h3, List.getD_eq_getElem?_getD] at h2
    match hs : z_spec[k - 4]?, h1, h2 with
    | some s, h1, h2 => exact z_sk_ok h1 h2
  · have h1 := h0 k (by omega)
    rw [hk] at h1
    match k, h4, h1, hT with
    | 0, _, h1, hT => cases h1; cases hT; exact Or.inl rfl
    | 1, _, h1, hT => cases h1; cases hT; exact Or.inr ⟨rfl, rfl, rfl, fun i hi => of_decide_eq_true (List.all_eq_true.mp z_ro1 i (List.mem_range.mpr hi))⟩
    | 2, _, h1, hT => cases h1; cases hT; exact Or.inr ⟨rfl, rfl, rfl⟩
    | 3, _, h1, hT => cases h1; cases hT; exact Or.inr ⟨rfl, rfl, rfl, fun i hi => of_decide_eq_true (List.all_eq_true.mp z_ro3 i (List.mem_range.mpr hi))⟩
    | k + 4, h4, _, _ => exact absurd (Nat.le_add_left 4 k) h4
theorem z_freshI : z_freshOk z_I := by
  intro L xs M hl hf h0
  have hW := z_freshW hl hf h0
  have e4 := z_qO (hf 4 (by decide) (by decide))
  have e19 := z_qO (hf 19 (by decide) (by decide))
  obtain ⟨f10, e10, g10⟩ := z_qR (by decide) (hf 10 (by decide) (by decide))
  obtain ⟨f24, e24, g24⟩ := z_qI (hf 24 (by decide) (by decide))
  have a3 : z_F M 4 3 = some (.int 0) := by unfold z_F; rw [e4]; rfl
  have a5 : z_F M 4 5 = some (.int 0) := by unfold z_F; rw [e4]; rfl
  have b21 : z_F M 19 21 = some (.int 0) := by unfold z_F; rw [e19]; rfl
  have b13 : z_F M 19 13 = some (.int 0) := by unfold z_F; rw [e19]; rfl
  have z0 : (0 : Int32).toInt = 0 := rfl
  refine ⟨z_kf, ⟨hW, ⟨?_, ?_⟩, ?_⟩, ?_, ?_, a5.trans b21.symm⟩
  · intro A hA i i0 i1
    rw [a3] at hA
    cases hA
    omega
  · intro A hA i i0 i1
    rw [a5] at hA
    cases hA
    omega
  · intro i b c hi hb hc
    unfold z_O at hb
    rw [e10] at hb
    have hb2 : f10 i = some b := hb
    rw [g10 i hi] at hb2
    cases hb2
  · intro r q hr hq hlt
    unfold z_Ar at hlt
    rw [e24] at hlt
    have hlt2 : (q : Int) < (f24 r).toInt := hlt
    rw [g24 r hr] at hlt2
    omega
  · intro A hA r hr
    rw [b13] at hA
    cases hA
    omega
theorem z_I4 {M : zH} (h : z_I M) : ∃ fs, M[4]? = some (.inr (0, fs)) := by
  obtain ⟨T, hA⟩ := h
  obtain ⟨fs, h1, _⟩ := hA.1.1.ob (hA.1.1.k (k := 4) (κ := .inl (0, 0, 0, 0, 0)) rfl (by decide))
  exact ⟨fs, h1⟩
theorem z_I19 {M : zH} (h : z_I M) : ∃ fs, M[19]? = some (.inr (12, fs)) := by
  obtain ⟨T, hA⟩ := h
  obtain ⟨fs, h1, _⟩ := hA.1.1.ob (hA.1.1.k (k := 19) (κ := .inl (12, 0, 0, 0, 0)) rfl (by decide))
  exact ⟨fs, h1⟩
