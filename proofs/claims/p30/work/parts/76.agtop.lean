/-! the reference's agenda: its head, the tape kept as text, its answer -/
section ZY6
variable {bb : Nat → Int} {nn k : Nat} {nu : Int → Int} {pr en t a S : Nat} {ts : Nat → Nat} {M M0 M1 M2 M3 : zH}
/-- the tape as the call finds it -/
def y_T0 (M : zH) (bb : Nat → Int) (nn : Nat) : Prop := (z_Fv M 19 1).toInt = (nn : Int) ∧ nn ≤ 160 ∧ ∀ j, j < nn → bb j = (z_Ar M 20 j).toInt
theorem y_T0.kp (h : y_T0 M bb nn) (e1 : z_F M1 19 1 = z_F M 19 1) (e2 : z_Ar M1 20 = z_Ar M 20) : y_T0 M1 bb nn := by
  unfold y_T0
  rw [z_FvK e1, e2]
  exact h
theorem y_T0.tb {x e z s : Int32} (h : y_T0 M bb nn) (f1 : z_F M 19 1 = some (.int x)) (f25 : z_F M1 19 25 = some (.int e)) (he : e.toInt = x.toInt) (f23 : z_F M1 19 23 = some (.int z)) (hz : z.toInt = 1) (f28 : z_F M1 19 28 = some (.int s)) (hs : s.toInt = 0) (e20 : z_Ar M1 20 = z_Ar M 20) : y_TB M1 bb nn 0 := by
  obtain ⟨h1, h2, h3⟩ := h
  rw [z_Fv.of f1] at h1
  refine ⟨by rw [z_Fv.of f25, he]; exact h1, h2, fun j hj => ?_, by rw [z_Fv.of f28, hs]; rfl⟩
  rw [z_Fv.of f23, if_neg (by omega), e20]
  exact h3 j hj
def y_GI (bb : Nat → Int) (nn : Nat) (M : zH) (a : Nat) (nu : Int → Int) (pr en t : Nat) (ts : Nat → Nat) (k : Nat) : Prop := y_TR M bb nn nu 0 ∧ y_T0 M bb nn ∧ y_rd M = a ∧ (¬ y_ok M → z_wh bb nn = none) ∧ (y_ok M → y_op M = 0 ∧ y_at M ≤ nn ∧ k ≠ 0 ∧ (z_Ar M 24 (y_rd M)).toInt = (k : Int) ∧ y_st M pr en t ts ∧ z_wh bb nn = z_whk bb nn nu k (z_ptw bb nn nu (y_at M) pr en t ts))
theorem z_wh_q {p : Nat} (h : 1 < nn ∧ bb 0 = 113 ∧ bb 1 = 32) (h2 : z_nqw bb nn 2 0 z_n0 = (p, k, nu)) (h3 : k ≠ 0) : z_wh bb nn = z_whk bb nn nu k (z_ptw bb nn nu p 0 0 0 (fun _ => 0)) := by
  unfold z_wh
  rw [if_pos h]
  have h2 : z_nqw bb nn 2 0 (fun _ => -1) = (p, k, nu) := h2
  rw [h2]
  show (if k = 0 then none else (match z_ptw bb nn nu p 0 0 0 (fun _ => 0) with | none => none | some (pr, en, t, ts) => some (k, nu, pr, en, t, ts))) = _
  rw [if_neg h3]
  cases z_ptw bb nn nu p 0 0 0 (fun _ => 0) with
  | none => rfl
  | some r => rfl
/-- behind the names -/
theorem y_GI0 {f o c r : Int32} {x25 x27 x28 : Int32} (hN : y_NI bb nn nu 0 M0 M 0) (hT : y_T0 M bb nn) (hf : z_F M0 19 26 = some (.int f)) (hf0 : f.toInt < 0) (ho : z_F M0 19 27 = some (.int o)) (o0 : o.toInt = 0) (hc : z_F M0 19 24 = some (.int c)) (c0 : c.toInt = 0) (hr : z_F M0 19 22 = some (.int r)) (ha : r.toInt.toNat = a) (h25 : z_Ar M 25 r.toNatClampNeg = x25) (e25 : x25.toInt = 0) (h27 : z_Ar M 27 r.toNatClampNeg = x27) (e27 : x27.toInt = 0) (h28 : z_Ar M 28 r.toNatClampNeg = x28) (e28 : x28.toInt = 0) : ∃ nu pr en t ts k, y_GI bb nn M a nu pr en t ts k := by
  obtain ⟨h1, h2, h3, h4, h5⟩ := hN
  have er : y_rd M0 = r.toNatClampNeg := y_rdE hr
  have era : y_rd M0 = a := er.trans ha
  have hk := y_okY hf hf0
  have h := h5 hk (by rw [y_atF hc, c0]; rfl)
  rw [if_pos rfl] at h
  rcases h with ⟨g1, g2, k, g3, g4, g5, g6⟩ | ⟨g1, g2⟩
  · refine ⟨nu, 0, 0, 0, fun _ => 0, k, h1, hT, h3.trans era, fun b => absurd g1 b, fun _ => ⟨?_, g2, g3, g4, ⟨?_, ?_, ?_, by decide, by decide, by decide, fun i hi => absurd hi (Nat.not_lt_zero i)⟩, z_wh_q g5 g6 g3⟩⟩
    · rw [h2, y_opF ho]; exact o0
    · rw [h3, er, h27]; exact e27
    · rw [h3, er, h28]; exact e28
    · rw [h3, er, h25]; exact e25
  · exact ⟨nu, 0, 0, 0, fun _ => 0, 0, h1, hT, h3.trans era, fun _ => g2, fun b => absurd b g1⟩
/-- one more part -/
theorem y_GIst {c : Int} (hG : y_GI bb nn M a nu pr en t ts k) (hP : y_PS bb nn M M1 59 c) (hc : c ≠ 0) (kp : y_kp M M1) : y_st M1 pr en t ts := (hG.2.2.2.2 (y_PS1 hP hc).1).2.2.2.2.1.kp kp
theorem y_GIs {c : Int} (hG : y_GI bb nn M a nu pr en t ts k) (hP : y_PS bb nn M M1 59 c) (hc : c ≠ 0) (hT : y_TR M2 bb nn nu 0) (hA : y_AP bb nn nu M1 M2 (y_at M) pr en t ts) (e1 : z_F M2 19 1 = z_F M 19 1) (e20 : z_Ar M2 20 = z_Ar M 20) (e22 : z_F M2 19 22 = z_F M 19 22) (e24 : z_Ar M2 24 = z_Ar M 24) : ∃ nu pr en t ts k, y_GI bb nn M2 a nu pr en t ts k := by
  obtain ⟨g1, g2, g3, g4, g5⟩ := hG
  obtain ⟨p1, p2, p3, p4, p5, p6⟩ := y_PS1 hP hc
  obtain ⟨q1, q2, q3, q4, q5, q6⟩ := g5 p1
  have hrd : y_rd M2 = y_rd M := y_rdK e22
  rcases hA.2 p2 p5 p3 p4 (p6.trans q1) with ⟨a1, a2⟩ | ⟨pr2, en2, t2, ts2, a1, a2, a3, a4, a5, a6⟩
  · refine ⟨nu, pr, en, t, ts, k, hT, g2.kp e1 e20, hrd.trans g3, fun _ => ?_, fun b => absurd b a2⟩
    rw [q6, a1]
    rfl
  · refine ⟨nu, pr2, en2, t2, ts2, k, hT, g2.kp e1 e20, hrd.trans g3, fun b => absurd a1 b, fun _ => ⟨a4, a3, q3, ?_, a5, ?_⟩⟩
    · rw [hrd, e24]; exact q4
    · rw [q6, a6]
/-- it ended badly -/
theorem y_GIbad {c : Int} {f : Int32} (hG : y_GI bb nn M a nu pr en t ts k) (hP : y_PS bb nn M M1 59 c) (hc : c = 0) (hf : z_F M1 19 26 = some (.int f)) (hf0 : 0 ≤ f.toInt) : z_wh bb nn = none := by
  obtain ⟨e1, n1⟩ := y_PS0 hP hc
  subst e1
  exact hG.2.2.2.1 (y_okN hf hf0)
theorem y_GIrest {c : Int} {f x e : Int32} (hG : y_GI bb nn M a nu pr en t ts k) (hP : y_PS bb nn M M1 59 c) (hc : c = 0) (hf : z_F M1 19 26 = some (.int f)) (hf0 : f.toInt < 0) (ha : z_F M1 19 24 = some (.int x)) (he : z_F M1 19 25 = some (.int e)) (h : x.toInt < e.toInt) (x0 : 0 ≤ x.toInt) : z_wh bb nn = none := by
  obtain ⟨e1, n1⟩ := y_PS0 hP hc
  subst e1
  have hk := y_okY hf hf0
  obtain ⟨g1, g2, g3, g4, g5⟩ := hG
  obtain ⟨q1, q2, q3, q4, q5, q6⟩ := g5 hk
  have en_ : e.toInt = (nn : Int) := by have := g1.1; rw [z_Fv.of he] at this; exact this
  have ea := y_atF ha
  rw [q6, z_ptw_bad (by omega) (fun b => n1 ⟨hk, by omega, b⟩)]
  rfl
theorem y_okNn {x : Int32} (h : z_F M 19 26 = some (.int x)) (hn : ¬ y_ok M) : 0 ≤ x.toInt := by
  by_cases c : 0 ≤ x.toInt
  · exact c
  · exact absurd (y_okY h (by omega)) hn
/-- it was read: the text is copied -/
def y_CP (bb : Nat → Int) (nn : Nat) (M : zH) (a : Nat) (nu : Int → Int) (pr en t : Nat) (ts : Nat → Nat) (k : Nat) (n2 n3 : Int) : Prop := y_AH M a k nu pr en t ts ∧ z_wh bb nn = some (k, nu, pr, en, t, ts) ∧ nn ≤ 160 ∧ (∀ j, j < nn → bb j = (z_Ar M 20 j).toInt) ∧ n2 = (nn : Int) ∧ ∀ j : Nat, (j : Int) < n3 → j < nn → bb j = (z_Ar M 21 (160 * a + j)).toInt
theorem y_CP0 {c n2 n3 : Int} {f x e v : Int32} (hG : y_GI bb nn M a nu pr en t ts k) (hP : y_PS bb nn M M1 59 c) (hc : c = 0) (hf : z_F M1 19 26 = some (.int f)) (hf0 : f.toInt < 0) (ha : z_F M1 19 24 = some (.int x)) (he : z_F M1 19 25 = some (.int e)) (h : e.toInt ≤ x.toInt) (hv : z_F M1 19 1 = some (.int v)) (hn2 : n2 = v.toInt) (hn3 : n3 = 0) (e20 : z_Ar M2 20 = z_Ar M1 20) (kp : z_Ar M2 23 = z_Ar M1 23 ∧ z_Ar M2 24 = z_Ar M1 24 ∧ z_Ar M2 25 = z_Ar M1 25 ∧ z_Ar M2 26 = z_Ar M1 26 ∧ z_Ar M2 27 = z_Ar M1 27 ∧ z_Ar M2 28 = z_Ar M1 28) : ∃ nu pr en t ts k, y_CP bb nn M2 a nu pr en t ts k n2 n3 := by
  obtain ⟨e1, n1⟩ := y_PS0 hP hc
  subst e1
  have hk := y_okY hf hf0
  obtain ⟨g1, g2, g3, g4, g5⟩ := hG
  obtain ⟨q1, q2, q3, q4, q5, q6⟩ := g5 hk
  have en_ : e.toInt = (nn : Int) := by have := g1.1; rw [z_Fv.of he] at this; exact this
  have ea := y_atF ha
  have ev : v.toInt = (nn : Int) := by have := g2.1; rw [z_Fv.of hv] at this; exact this
  have hh := (y_AH.mk g1 q5 q4 g3).kp kp
  rw [z_ptw_end q2 (by omega)] at q6
  refine ⟨nu, pr, en, t, ts, k, hh, q6, g2.2.1, fun j hj => ?_, by omega, fun j hj => by omega⟩
  rw [e20]
  exact g2.2.2 j hj
theorem y_CPs {n2 n3 m2 m3 : Int} {ix q v : Int32} (hC : y_CP bb nn M a nu pr en t ts k n2 n3) (h0 : 0 ≤ n3) (ei : ix.toInt = ((160 * a : Nat) : Int) + n3) (hq : z_Ar M 20 q.toNatClampNeg = v) (eq : q.toInt = n3) (e21 : z_Ar M1 21 = upd (z_Ar M 21) ix.toNatClampNeg v) (e20 : z_Ar M1 20 = z_Ar M 20) (kp : z_Ar M1 23 = z_Ar M 23 ∧ z_Ar M1 24 = z_Ar M 24 ∧ z_Ar M1 25 = z_Ar M 25 ∧ z_Ar M1 26 = z_Ar M 26 ∧ z_Ar M1 27 = z_Ar M 27 ∧ z_Ar M1 28 = z_Ar M 28) (h2 : m2 = n2) (h3 : m3 = n3 + 1) : ∃ nu pr en t ts k, y_CP bb nn M1 a nu pr en t ts k m2 m3 := by
  obtain ⟨c1, c2, c3, c4, c5, c6⟩ := hC
  subst h2 h3
  refine ⟨nu, pr, en, t, ts, k, c1.kp kp, c2, c3, fun j hj => by rw [e20]; exact c4 j hj, c5, fun j hj hj2 => ?_⟩
  have eix : ix.toNatClampNeg = 160 * a + n3.toNat := by
    show ix.toInt.toNat = _
    omega
  have eqn : q.toNatClampNeg = n3.toNat := by
    show q.toInt.toNat = _
    omega
  rw [e21, eix]
  show bb j = (if 160 * a + j = 160 * a + n3.toNat then v else z_Ar M 21 (160 * a + j)).toInt
  by_cases c : j = n3.toNat
  · rw [if_pos (by omega), ← hq, eqn, ← c]
    exact c4 j hj2
  · rw [if_neg (by omega)]
    exact c6 j (by omega) hj2
/-- the text stands: its sets are gone through -/
theorem y_LW0 {n2 n3 n : Int} {a1 v l : Int32} (hC : y_CP bb nn M a nu pr en t ts k n2 n3) (h : n2 ≤ n3) (ha : a1.toInt.toNat = a) (e22 : z_Ar M1 22 = upd (z_Ar M 22) a1.toNatClampNeg v) (hv : v.toInt = n2) (e31 : z_Ar M1 31 = upd (z_Ar M 31) a1.toNatClampNeg l) (hl : l.toInt = 0) (e21 : z_Ar M1 21 = z_Ar M 21) (kp : z_Ar M1 23 = z_Ar M 23 ∧ z_Ar M1 24 = z_Ar M 24 ∧ z_Ar M1 25 = z_Ar M 25 ∧ z_Ar M1 26 = z_Ar M 26 ∧ z_Ar M1 27 = z_Ar M 27 ∧ z_Ar M1 28 = z_Ar M 28) (hn : n = 0) : ∃ nu pr en t ts k, y_LW M1 a bb nn k nu pr en t ts n.toNat := by
  obtain ⟨c1, c2, c3, c4, c5, c6⟩ := hC
  subst hn
  have ea : a1.toNatClampNeg = a := ha
  rw [ea] at e22 e31
  refine ⟨nu, pr, en, t, ts, k, ⟨⟨by rw [z_upds e22]; omega, c3, fun j hj => ?_⟩, c1.kp kp⟩, c2, Nat.zero_le _, fun s hs => absurd hs (Nat.not_lt_zero s), by rw [z_upds e31]; exact hl, fun s hs => absurd hs (Nat.not_lt_zero s)⟩
  rw [e21]
  exact c6 j (by omega) hj
/-- what the call does -/
def y_AGP (bb : Nat → Int) (nn : Nat) (M0 M1 : zH) : Prop := ((z_Fv M0 19 13).toInt = 8 ∧ M1 = M0) ∨ ((z_Fv M0 19 13).toInt ≠ 8 ∧ (z_Fv M1 19 1).toInt = 0 ∧ (((z_Fv M1 19 13).toInt = (z_Fv M0 19 13).toInt ∧ ¬ z_lwA bb nn) ∨ ((z_Fv M1 19 13).toInt = (z_Fv M0 19 13).toInt + 1 ∧ z_lwA bb nn ∧ ∃ k nu pr en t ts, y_LW M1 (z_Fv M0 19 13).toInt.toNat bb nn k nu pr en t ts (2 ^ k))))
theorem z_lw_no (h : z_wh bb nn = none) : ¬ z_lwA bb nn := fun ⟨k, nu, pr, en, t, ts, e, _⟩ => by rw [h] at e; cases e
theorem y_AGPf {A : Int32} (h : z_F M0 19 13 = some (.int A)) (h8 : A.toInt = 8) : y_AGP bb nn M0 M0 := Or.inl ⟨by rw [z_Fv.of h]; exact h8, rfl⟩
theorem y_AGPn {A B v : Int32} (h : z_F M0 19 13 = some (.int A)) (h8 : A.toInt ≠ 8) (h1 : z_F M1 19 13 = some (.int B)) (e : B.toInt = A.toInt) (hv : z_F M1 19 1 = some (.int v)) (v0 : v.toInt = 0) (hw : ¬ z_lwA bb nn) : y_AGP bb nn M0 M1 := Or.inr ⟨by rw [z_Fv.of h]; exact h8, by rw [z_Fv.of hv]; exact v0, Or.inl ⟨by rw [z_Fv.of h, z_Fv.of h1]; exact e, hw⟩⟩
/-- all sets are gone through -/
theorem y_LWe {n : Int} {c k1 a1 : Int32} (h : y_LW M a bb nn k nu pr en t ts n.toNat) (ha : a1.toInt.toNat = a) (hk : z_Ar M 24 a1.toNatClampNeg = k1) (hc : c = (1 : Int32) <<< (k1 &&& 31)) (k10 : 0 ≤ k1.toInt ∧ k1.toInt ≤ 10) (hl : c.toInt ≤ n) : y_LW M a bb nn k nu pr en t ts (2 ^ k) := by
  have e1 : a1.toNatClampNeg = a := ha
  rw [e1] at hk
  have e2 := h.1.2.1
  rw [hk] at e2
  have e3 := (z_shk hc k10).1
  have e4 : k1.toInt.toNat = k := by omega
  rw [e4] at e3
  have e5 : n.toNat = 2 ^ k := by have := h.2.2.1; omega
  rw [← e5]
  exact h
theorem y_LWl {a1 l : Int32} (h : y_LW M a bb nn k nu pr en t ts (2 ^ k)) (ha : a1.toInt.toNat = a) (hl : z_Ar M 31 a1.toNatClampNeg = l) : (l.toInt = 0 → ¬ z_lwA bb nn) ∧ (l.toInt ≠ 0 → z_lwA bb nn) := by
  have e1 : a1.toNatClampNeg = a := ha
  rw [e1] at hl
  obtain ⟨h1, h2, h3, h4, h5, h6⟩ := h
  rw [hl] at h5
  refine ⟨fun h0 => ?_, fun h0 => ?_⟩
  · rintro ⟨k', nu', pr', en', t', ts', e, hw⟩
    rw [h2] at e
    cases e
    exact z_lawful_lc.mp hw (by omega)
  · exact ⟨k, nu, pr, en, t, ts, h2, z_lawful_lc.mpr (by omega)⟩
theorem y_AGPy {A B v : Int32} (h : z_F M0 19 13 = some (.int A)) (h8 : A.toInt ≠ 8) (h1 : z_F M1 19 13 = some (.int B)) (e : B.toInt = A.toInt + 1) (hv : z_F M1 19 1 = some (.int v)) (v0 : v.toInt = 0) (hw : z_lwA bb nn) (ha : A.toInt.toNat = a) (hL : y_LW M1 a bb nn k nu pr en t ts (2 ^ k)) : y_AGP bb nn M0 M1 := by
  refine Or.inr ⟨by rw [z_Fv.of h]; exact h8, by rw [z_Fv.of hv]; exact v0, Or.inr ⟨by rw [z_Fv.of h, z_Fv.of h1]; exact e, hw, k, nu, pr, en, t, ts, ?_⟩⟩
  rw [z_Fv.of h, ha]
  exact hL
end ZY6
