/-! the reference reads the questions' names -/
section ZY3
variable {bb : Nat → Int} {nn : Nat} {nu : Int → Int} {S : Nat} {M M0 M1 M2 M3 M4 M5 : zH}
/-- the tape without the names -/
def y_TB (M : zH) (bb : Nat → Int) (nn : Nat) (S : Nat) : Prop := (z_Fv M 19 25).toInt = (nn : Int) ∧ nn ≤ 160 ∧ (∀ k, k < nn → bb k = if (z_Fv M 19 23).toInt = 0 then (z_Ar M 21 (160 * y_rd M + k)).toInt else (z_Ar M 20 k).toInt) ∧ (z_Fv M 19 28).toInt = (S : Int)
theorem y_TB.tr {r q : Int32} {T : List zK} {rs : List Nat} (h : y_TB M bb nn S) (hX : z_X T rs M M1) (hr : z_dj [20, 21, 2222, 2223, 2225, 2228] rs = true) (hrd : z_F M1 19 22 = some (.int r)) {f : Nat → Int32} (h24 : z_Ar M1 24 = upd f r.toNatClampNeg q) (hq : q.toInt = 0) : y_TR M1 bb nn z_n0 S := by
  have nr := z_djn hr
  have k19 : T[19]? = some (.inl (12, 0, 0, 0, 0)) := hX.1.k rfl (by decide)
  have k20 := hX.1.k (k := 20) (κ := z_af 20 160) rfl (by decide)
  have k21 := hX.1.k (k := 21) (κ := z_af 21 1280) rfl (by decide)
  have e22 : z_Fv M1 19 22 = z_Fv M 19 22 := z_FvK (hX.2.1 19 12 0 0 0 0 22 k19 (nr _ (by decide)))
  have e23 : z_Fv M1 19 23 = z_Fv M 19 23 := z_FvK (hX.2.1 19 12 0 0 0 0 23 k19 (nr _ (by decide)))
  have e25 : z_Fv M1 19 25 = z_Fv M 19 25 := z_FvK (hX.2.1 19 12 0 0 0 0 25 k19 (nr _ (by decide)))
  have e28 : z_Fv M1 19 28 = z_Fv M 19 28 := z_FvK (hX.2.1 19 12 0 0 0 0 28 k19 (nr _ (by decide)))
  have er : y_rd M1 = y_rd M := by unfold y_rd; rw [e22]
  have er2 : y_rd M1 = r.toNatClampNeg := by unfold y_rd; rw [z_Fv.of hrd]; rfl
  obtain ⟨h1, h2, h3, h4⟩ := h
  have hz : (z_Ar M1 24 (y_rd M1)).toInt = 0 := by rw [er2, z_upds h24]; exact hq
  refine ⟨by rw [e25]; exact h1, h2, fun k hk => ?_, fun q hq2 => ?_, fun c hc => absurd hc (by decide : ¬ (0 : Int) ≤ -1), fun c _ => (by decide : (-1 : Int) < 0), by rw [e28]; exact h4⟩
  · rw [e23, er, hX.2.a k20 (nr _ (by decide)), hX.2.a k21 (nr _ (by decide))]
    exact h3 k hk
  · rw [hz] at hq2
    omega
/-- a name comes -/
theorem y_TR.name {r c i qv q2 : Int32} (h : y_TR M bb nn nu S) (hrd : z_F M 19 22 = some (.int r)) (h0 : 0 ≤ r.toInt) (hq : z_Ar M 24 r.toNatClampNeg = qv) (q0 : 0 ≤ qv.toInt) (hi : i.toInt = 10 * r.toInt + qv.toInt) (e23 : z_Ar M1 23 = upd (z_Ar M 23) i.toNatClampNeg c) (e24 : z_Ar M1 24 = upd (z_Ar M 24) r.toNatClampNeg q2) (hq2 : q2.toInt = qv.toInt + 1) (hc : 97 ≤ c.toInt ∧ c.toInt ≤ 106) (hn : nu c.toInt < 0) (f22 : z_F M1 19 22 = z_F M 19 22) (f23 : z_F M1 19 23 = z_F M 19 23) (f25 : z_F M1 19 25 = z_F M 19 25) (f28 : z_F M1 19 28 = z_F M 19 28) (a20 : z_Ar M1 20 = z_Ar M 20) (a21 : z_Ar M1 21 = z_Ar M 21) {x : Int} (hx : x = c.toInt) : y_TR M1 bb nn (fun d => if d = x then qv.toInt else nu d) S := by
  subst hx
  obtain ⟨h1, h2, h3, h4, h5, h6, h7⟩ := h
  have er : y_rd M = r.toNatClampNeg := by unfold y_rd; rw [z_Fv.of hrd]; rfl
  have er1 : y_rd M1 = y_rd M := by unfold y_rd; rw [z_FvK f22]
  have ern : r.toNatClampNeg = r.toInt.toNat := rfl
  have ein : i.toNatClampNeg = 10 * r.toNatClampNeg + qv.toInt.toNat := by
    show i.toInt.toNat = 10 * r.toInt.toNat + qv.toInt.toNat
    omega
  have hq24 : (z_Ar M1 24 (y_rd M1)).toInt = qv.toInt + 1 := by rw [er1, er, z_upds e24]; exact hq2
  have hqo : (z_Ar M 24 (y_rd M)).toInt = qv.toInt := by rw [er, hq]
  refine ⟨by rw [z_FvK f25]; exact h1, h2, fun k hk => ?_, fun q hq3 => ?_, fun d hd => ?_, fun d hd => ?_, by rw [z_FvK f28]; exact h7⟩
  · rw [z_FvK f23, er1, a20, a21]
    exact h3 k hk
  · rw [hq24] at hq3
    rw [er1, e23]
    by_cases e : q = qv.toInt.toNat
    · have e1 : upd (z_Ar M 23) i.toNatClampNeg c (10 * y_rd M + q) = c := by
        show (if 10 * y_rd M + q = i.toNatClampNeg then c else _) = c
        rw [if_pos (by rw [ein, er, e])]
      rw [e1]
      show (if c.toInt = c.toInt then qv.toInt else nu c.toInt) = (q : Int)
      rw [if_pos rfl]
      omega
    · have e1 : upd (z_Ar M 23) i.toNatClampNeg c (10 * y_rd M + q) = z_Ar M 23 (10 * y_rd M + q) := by
        show (if 10 * y_rd M + q = i.toNatClampNeg then c else z_Ar M 23 (10 * y_rd M + q)) = _
        have e2 : ¬ (10 * y_rd M + q = i.toNatClampNeg) := by rw [ein, er]; omega
        rw [if_neg e2]
      rw [e1]
      have e3 := h4 q (by omega)
      have e4 : ¬ ((z_Ar M 23 (10 * y_rd M + q)).toInt = c.toInt) := fun e5 => by rw [e5] at e3; omega
      show (if (z_Ar M 23 (10 * y_rd M + q)).toInt = c.toInt then qv.toInt else nu (z_Ar M 23 (10 * y_rd M + q)).toInt) = (q : Int)
      rw [if_neg e4]
      exact e3
  · have hd : 0 ≤ (if d = c.toInt then qv.toInt else nu d) := hd
    rw [hq24, er1, e23]
    by_cases e : d = c.toInt
    · refine ⟨qv.toInt.toNat, by omega, ?_⟩
      show (if 10 * y_rd M + qv.toInt.toNat = i.toNatClampNeg then c else _).toInt = d
      rw [if_pos (by rw [ein, er]), e]
    · rw [if_neg e] at hd
      obtain ⟨q, e1, e2⟩ := h5 d hd
      refine ⟨q, by omega, ?_⟩
      show (if 10 * y_rd M + q = i.toNatClampNeg then c else z_Ar M 23 (10 * y_rd M + q)).toInt = d
      have e3 : ¬ (10 * y_rd M + q = i.toNatClampNeg) := by rw [ein, er]; omega
      rw [if_neg e3]
      exact e2
  · show (if d = c.toInt then qv.toInt else nu d) < 0
    have e : ¬ (d = c.toInt) := by omega
    rw [if_neg e]
    exact h6 d hd
def y_NI (bb : Nat → Int) (nn : Nat) (nu : Int → Int) (S : Nat) (M0 M : zH) (mo : Int) : Prop := y_TR M bb nn nu S ∧ y_op M = y_op M0 ∧ y_rd M = y_rd M0 ∧ (¬ y_ok M0 → ¬ y_ok M) ∧ (y_ok M0 → y_at M0 = 0 → if mo = 0 then ((y_ok M ∧ y_at M ≤ nn ∧ ∃ k : Nat, k ≠ 0 ∧ (z_Ar M 24 (y_rd M)).toInt = (k : Int) ∧ (1 < nn ∧ bb 0 = 113 ∧ bb 1 = 32) ∧ z_nqw bb nn 2 0 z_n0 = (y_at M, k, nu)) ∨ (¬ y_ok M ∧ z_wh bb nn = none)) else (y_ok M ∧ y_at M ≤ nn ∧ (1 < nn ∧ bb 0 = 113 ∧ bb 1 = 32) ∧ 0 ≤ (z_Ar M 24 (y_rd M)).toInt ∧ z_nqw bb nn 2 0 z_n0 = z_nqw bb nn (y_at M) (z_Ar M 24 (y_rd M)).toInt.toNat nu))
theorem y_rdK (h : z_F M1 19 22 = z_F M 19 22) : y_rd M1 = y_rd M := by unfold y_rd; rw [z_FvK h]
theorem y_q24 {r q : Int32} (hr : z_F M 19 22 = some (.int r)) (h : z_Ar M 24 r.toNatClampNeg = q) : z_Ar M 24 (y_rd M) = q := by
  have er : y_rd M = r.toNatClampNeg := by unfold y_rd; rw [z_Fv.of hr]; rfl
  rw [er]
  exact h
theorem y_NIc {mo mo2 : Int} (h : y_NI bb nn nu S M0 M mo) (e : mo = mo2) : y_NI bb nn nu S M0 M mo2 := by rw [← e]; exact h
/-- q and a space are missing -/
theorem y_NIm {c : Int} (hT : y_TR M2 bb nn nu S) (ho : y_op M2 = y_op M0) (hr : y_rd M2 = y_rd M0) (hk : y_ok M0 ↔ y_ok M) (ha : y_at M = y_at M0) (hP : y_PS bb nn M M1 113 c) (hc : c = 0) (hF : ¬ y_ok M2) {mo : Int} (hm : mo = 0) : ∃ nu, y_NI bb nn nu S M0 M2 mo := by
  obtain ⟨e1, n1⟩ := y_PS0 hP hc
  refine ⟨nu, hT, ho, hr, fun _ => hF, fun k0 k1 => ?_⟩
  rw [if_pos hm]
  refine Or.inr ⟨hF, ?_⟩
  unfold z_wh
  rw [if_neg (fun a => n1 ⟨hk.mp k0, by omega, by rw [ha, k1]; exact a.2.1⟩)]
theorem y_NIm2 {c c2 : Int} (hT : y_TR M3 bb nn nu S) (ho : y_op M3 = y_op M0) (hr : y_rd M3 = y_rd M0) (ha : y_at M = y_at M0) (hP : y_PS bb nn M M1 113 c) (hc : c ≠ 0) (hP2 : y_PS bb nn M1 M2 32 c2) (hc2 : c2 = 0) (hF : ¬ y_ok M3) {mo : Int} (hm : mo = 0) : ∃ nu, y_NI bb nn nu S M0 M3 mo := by
  obtain ⟨p1, p2, p3, p4, p5, p6⟩ := y_PS1 hP hc
  obtain ⟨e1, n1⟩ := y_PS0 hP2 hc2
  refine ⟨nu, hT, ho, hr, fun _ => hF, fun k0 k1 => ?_⟩
  rw [if_pos hm]
  refine Or.inr ⟨hF, ?_⟩
  have e2 : y_at M1 = 1 := by omega
  rw [e2] at n1
  unfold z_wh
  rw [if_neg (fun a => n1 ⟨p2, a.1, a.2.2⟩)]
theorem y_NI0 {c c2 : Int} (hT : y_TR M2 bb nn z_n0 S) (ho : y_op M2 = y_op M0) (hr : y_rd M2 = y_rd M0) (hk : y_ok M0 ↔ y_ok M) (ha : y_at M = y_at M0) (hP : y_PS bb nn M M1 113 c) (hc : c ≠ 0) (hP2 : y_PS bb nn M1 M2 32 c2) (hc2 : c2 ≠ 0) (h24 : (z_Ar M2 24 (y_rd M2)).toInt = 0) {mo : Int} (hm : mo ≠ 0) : ∃ nu, y_NI bb nn nu S M0 M2 mo := by
  obtain ⟨p1, p2, p3, p4, p5, p6⟩ := y_PS1 hP hc
  obtain ⟨q1, q2, q3, q4, q5, q6⟩ := y_PS1 hP2 hc2
  refine ⟨z_n0, hT, ho, hr, fun a => absurd (hk.mpr p1) a, fun k0 k1 => ?_⟩
  rw [if_neg hm]
  have e1 : y_at M = 0 := by omega
  have e2 : y_at M1 = 1 := by omega
  have e3 : y_at M2 = 2 := by omega
  rw [e1] at p3 p4
  rw [e2] at q3 q4
  refine ⟨q2, by omega, ⟨q3, p4, q4⟩, by omega, ?_⟩
  rw [h24, e3]
  rfl
theorem y_NIs {r c qv q2 a a2 : Int32} {mo mo2 : Int} (hN : y_NI bb nn nu S M0 M mo) (hmo : mo ≠ 0) (hb : c.toInt = y_by bb nn M) (hc : 97 ≤ c.toInt ∧ c.toInt ≤ 106) (hn : nu c.toInt < 0) (hT1 : y_TR M1 bb nn (fun d => if d = c.toInt then qv.toInt else nu d) S) (hrd : z_F M 19 22 = some (.int r)) (f22 : z_F M1 19 22 = z_F M 19 22) (hq : z_Ar M 24 r.toNatClampNeg = qv) (e24 : z_Ar M1 24 = upd (z_Ar M 24) r.toNatClampNeg q2) (hq2 : q2.toInt = qv.toInt + 1 ∧ 0 ≤ qv.toInt) (ha : z_F M 19 24 = some (.int a)) (ha2 : z_F M1 19 24 = some (.int a2)) (haa : a2.toInt = a.toInt + 1 ∧ 0 ≤ a.toInt) (f26 : z_F M1 19 26 = z_F M 19 26) (f27 : z_F M1 19 27 = z_F M 19 27) (hm2 : mo2 ≠ 0) : ∃ nu, y_NI bb nn nu S M0 M1 mo2 := by
  obtain ⟨hT, h1, h2, h3, h4⟩ := hN
  have er1 : y_rd M1 = y_rd M := by unfold y_rd; rw [z_FvK f22]
  have er : y_rd M = r.toNatClampNeg := by unfold y_rd; rw [z_Fv.of hrd]; rfl
  refine ⟨_, hT1, (y_opK f27).trans h1, er1.trans h2, fun k b => h3 k ((y_okK f26).mp b), fun k0 k1 => ?_⟩
  have h := h4 k0 k1
  rw [if_neg hmo] at h
  rw [if_neg hm2]
  obtain ⟨g1, g2, g3, g4, g5⟩ := h
  obtain ⟨h5, h6⟩ := y_byp hb (by omega)
  have hat : y_at M1 = y_at M + 1 := by rw [y_atF ha, y_atF ha2]; omega
  have e1 : (z_Ar M1 24 (y_rd M1)).toInt = qv.toInt + 1 := by rw [er1, er, z_upds e24]; exact hq2.1
  have e0 : (z_Ar M 24 (y_rd M)).toInt = qv.toInt := by rw [er, hq]
  refine ⟨(y_okK f26).mpr g1, by omega, g3, by omega, ?_⟩
  rw [g5, z_nqw_y (p := y_at M) (nu := nu) ⟨h5, by omega, by omega, by rw [h6]; exact hn⟩, hat, e1, e0, h6]
  have e7 : (qv.toInt + 1).toNat = qv.toInt.toNat + 1 := by omega
  have e8 : ((qv.toInt.toNat : Nat) : Int) = qv.toInt := by omega
  rw [e7, e8]
/-- no name here, some stand -/
theorem y_NIe {x mo mo2 : Int} {q : Int} (hN : y_NI bb nn nu S M0 M mo) (hmo : mo ≠ 0) (hb : x = y_by bb nn M) (hx : x < 97 ∨ 106 < x) (hq : (z_Ar M 24 (y_rd M)).toInt = q) (hq0 : q ≠ 0) (hm2 : mo2 = 0) : ∃ nu, y_NI bb nn nu S M0 M mo2 := by
  obtain ⟨hT, h1, h2, h3, h4⟩ := hN
  refine ⟨nu, hT, h1, h2, h3, fun k0 k1 => ?_⟩
  have h := h4 k0 k1
  rw [if_neg hmo] at h
  rw [if_pos hm2]
  obtain ⟨g1, g2, g3, g4, g5⟩ := h
  rw [z_nqw_n (p := y_at M) (nu := nu) (k := (z_Ar M 24 (y_rd M)).toInt.toNat) (fun a => by unfold y_by at hb; rw [if_pos a.1] at hb; omega)] at g5
  exact Or.inl ⟨g1, g2, (z_Ar M 24 (y_rd M)).toInt.toNat, by omega, by omega, g3, g5⟩
theorem z_wh_k0 {p k : Nat} {nu2 : Int → Int} (h : z_nqw bb nn 2 0 z_n0 = (p, k, nu2)) (hk : k = 0 ∨ (p < nn ∧ bb p ≠ 59)) : z_wh bb nn = none := by
  unfold z_wh
  by_cases c : 1 < nn ∧ bb 0 = 113 ∧ bb 1 = 32
  · rw [if_pos c]
    have h : z_nqw bb nn 2 0 (fun _ => -1) = (p, k, nu2) := h
    rw [h]
    show (if k = 0 then none else (match z_ptw bb nn nu2 p 0 0 0 (fun _ => 0) with | none => none | some (pr, en, t, ts) => some (k, nu2, pr, en, t, ts))) = none
    by_cases c2 : k = 0
    · rw [if_pos c2]
    · rw [if_neg c2]
      rcases hk with hk | ⟨hk, hk2⟩
      · exact absurd hk c2
      · rw [z_ptw_bad hk hk2]
  · rw [if_neg c]
/-- no name here, none stands; or one that stands already -/
theorem y_NIf {x mo mo2 : Int} (hN : y_NI bb nn nu S M0 M mo) (hmo : mo ≠ 0) (hb : x = y_by bb nn M) (hx : ((x < 97 ∨ 106 < x) ∧ (z_Ar M 24 (y_rd M)).toInt = 0) ∨ (97 ≤ x ∧ x ≤ 106 ∧ 0 ≤ nu x)) (hF : ¬ y_ok M1) {T : List zK} {rs : List Nat} {M' : zH} (hW : z_W M' T) (hX : z_X T rs M M1) (hr : z_dj [20, 21, 23, 24, 2222, 2223, 2225, 2228] rs = true) (f22 : z_F M1 19 22 = z_F M 19 22) (f27 : z_F M1 19 27 = z_F M 19 27) (hm2 : mo2 = 0) : ∃ nu, y_NI bb nn nu S M0 M1 mo2 := by
  obtain ⟨hT, h1, h2, h3, h4⟩ := hN
  have er1 : y_rd M1 = y_rd M := by unfold y_rd; rw [z_FvK f22]
  refine ⟨nu, hT.go hW hX hr, (y_opK f27).trans h1, er1.trans h2, fun _ => hF, fun k0 k1 => ?_⟩
  have h := h4 k0 k1
  rw [if_neg hmo] at h
  rw [if_pos hm2]
  obtain ⟨g1, g2, g3, g4, g5⟩ := h
  refine Or.inr ⟨hF, ?_⟩
  rcases hx with ⟨hx, hq⟩ | ⟨hx, hx2, hx3⟩
  · rw [z_nqw_n (p := y_at M) (nu := nu) (k := (z_Ar M 24 (y_rd M)).toInt.toNat) (fun a => by unfold y_by at hb; rw [if_pos a.1] at hb; omega)] at g5
    exact z_wh_k0 g5 (Or.inl (by omega))
  · obtain ⟨h5, h6⟩ := y_byp hb (by omega)
    rw [z_nqw_n (p := y_at M) (nu := nu) (k := (z_Ar M 24 (y_rd M)).toInt.toNat) (fun a => by rw [h6] at a; omega)] at g5
    exact z_wh_k0 g5 (Or.inr ⟨h5, by omega⟩)
end ZY3
