/-! the class reads the whole tape: how its parts go together -/
def z_qe (r : Nat × Nat) : Option (Nat × Nat) := if r.2 = 0 then none else some r
theorem z_qs_y {b : Nat → Int} {n : Nat} {nu : Int → Int} {p : Nat} (h : p < n ∧ b p = 32) : z_qs b n nu p = z_qe (z_sqw b n nu (p + 1) 0) := by
  unfold z_qs z_qe
  rw [if_pos h]
theorem z_qs_n {b : Nat → Int} {n : Nat} {nu : Int → Int} {p : Nat} (h : ¬ (p < n ∧ b p = 32)) : z_qs b n nu p = none := by
  unfold z_qs
  rw [if_neg h]
def z_SI (bb : Nat → Int) (nn : Nat) (nu : Int → Int) (M0 M : zH) (m i : Int) : Prop := (¬ z_ok M0 → ¬ z_ok M) ∧ (z_ok M0 → z_atN M0 ≤ nn → (z_qs bb nn nu (z_atN M0) = none ∧ ¬ z_ok M) ∨ (z_ok M ∧ z_atN M ≤ nn ∧ 0 ≤ m ∧ m < 1024 ∧ i = (z_c10 m.toNat : Int) ∧ z_qs bb nn nu (z_atN M0) = z_qe (z_sqw bb nn nu (z_atN M) m.toNat)))
def z_SQ (bb : Nat → Int) (nn : Nat) (nu : Int → Int) (M0 M1 : zH) (x : Int) : Prop := (¬ z_ok M0 → ¬ z_ok M1) ∧ (z_ok M0 → z_atN M0 ≤ nn → (z_qs bb nn nu (z_atN M0) = none ∧ ¬ z_ok M1) ∨ ∃ q m, z_qs bb nn nu (z_atN M0) = some (q, m) ∧ z_ok M1 ∧ z_atN M1 = q ∧ x = (m : Int) ∧ m < 1024)
section ZT3
variable {bb : Nat → Int} {nn : Nat} {nu : Int → Int} {BB : Nat} {M M0 M1 M2 M3 M4 : zH}
theorem z_SI0 (hE : z_EX bb nn M0 M1 32) : z_SI bb nn nu M0 M1 0 0 := by
  refine ⟨fun a => hE.elim (fun b => absurd b.1 a) (fun b => b.1), fun h h2 => ?_⟩
  rcases hE with ⟨b1, b2, b3, b4, b5⟩ | ⟨b1, b2⟩
  · refine Or.inr ⟨b2, by omega, by decide, by decide, rfl, ?_⟩
    rw [z_qs_y ⟨b3, b4⟩, b5]
    rfl
  · exact Or.inl ⟨z_qs_n (fun a => b2 ⟨h, a.1, a.2⟩), b1⟩
theorem z_SIs {m m2 q c a2 a : Int32} {i i2 : Int} {r w : Int32} (hI : z_SI bb nn nu M0 M m.toInt i) (hT : z_TP M bb nn nu BB) (hQ : z_QH bb nn nu M q.toInt) (hq : 0 ≤ q.toInt ∧ q.toInt < 10) (hr : r = m >>> (q &&& 31)) (hw : w = r &&& 1) (hw0 : w.toInt = 0) (hc : c = (1 : Int32) <<< (q &&& 31)) (hm : m2 = m ||| c) (ha : z_F M 5 2 = some (.int a)) (hn : z_F M1 5 2 = some (.int a2)) (h : a2.toInt = a.toInt + 1 ∧ 0 ≤ a.toInt) (hf : z_F M1 5 3 = z_F M 5 3) (hi : i2 = i + 1) : z_SI bb nn nu M0 M1 m2.toInt i2 := by
  obtain ⟨_, h1, h2, h3⟩ := hQ.resolve_right (fun a => absurd a.1 (by omega))
  refine ⟨fun c => absurd h1 (hI.1 c), fun k h4 => ?_⟩
  rcases hI.2 k h4 with ⟨a1, a2⟩ | ⟨a1, a2, a3, a4, a5, a6⟩
  · exact absurd h1 a2
  · have e1 := z_sbit hr hw a3 ⟨hq.1, by omega⟩
    have hb : m.toInt.toNat / 2 ^ q.toInt.toNat % 2 = 0 := by omega
    obtain ⟨e5, e3, e4⟩ := z_orbit hc hm ⟨a3, a4⟩ hq hb
    have hat : z_atN M1 = z_atN M + 1 := by rw [z_atF ha, z_atF hn]; omega
    refine Or.inr ⟨(z_okK hf).mpr h1, by omega, e3.1, e3.2, by omega, ?_⟩
    rw [a6, z_sqw_y (p := z_atN M) ⟨h2, by omega, by rw [h3]; exact hb⟩, h3, hat]
    rw [e5]
/-- no question here, or one that stands already, or ten -/
theorem z_stopA {q : Int} {m : Nat} {M0 : zH} (hQ : z_QH bb nn nu M q) (hq : q < 0) : z_ok M → z_atN M0 ≤ nn → z_sqw bb nn nu (z_atN M) m = (z_atN M, m) := fun h _ => by
  have n1 := (hQ.resolve_left (fun a => absurd a.1 (by omega))).2
  exact z_sqw_n (fun a => n1 ⟨h, a.1, a.2.1⟩)
theorem z_okB (h : ¬ z_ok M0 → ¬ z_ok M) (h2 : z_ok M) : z_ok M0 := by
  by_cases c : z_ok M0
  · exact c
  · exact absurd h2 (h c)
theorem z_stopB {m q r w : Int32} {i : Int} (hI : z_SI bb nn nu M0 M m.toInt i) (hQ : z_QH bb nn nu M q.toInt) (hq : 0 ≤ q.toInt ∧ q.toInt < 10) (hr : r = m >>> (q &&& 31)) (hw : w = r &&& 1) (hw0 : w.toInt ≠ 0) : z_ok M → z_atN M0 ≤ nn → z_sqw bb nn nu (z_atN M) m.toInt.toNat = (z_atN M, m.toInt.toNat) := fun h h2 => by
  obtain ⟨_, h1, h2a, h3⟩ := hQ.resolve_right (fun a => absurd a.1 (by omega))
  rcases hI.2 (z_okB hI.1 h) h2 with ⟨a1, a2⟩ | ⟨a1, a2, a3, a4, a5, a6⟩
  · exact absurd h a2
  · have e1 := z_sbit hr hw a3 ⟨hq.1, by omega⟩
    refine z_sqw_n (fun a => ?_)
    rw [h3] at a
    omega
theorem z_stopC {m i : Int} (hI : z_SI bb nn nu M0 M m i) (hi : 10 ≤ i) (hnu : ∀ c, nu c ≤ 9) : z_ok M → z_atN M0 ≤ nn → z_sqw bb nn nu (z_atN M) m.toNat = (z_atN M, m.toNat) := fun h h2 => by
  rcases hI.2 (z_okB hI.1 h) h2 with ⟨a1, a2⟩ | ⟨a1, a2, a3, a4, a5, a6⟩
  · exact absurd h a2
  · have hc : z_c10 m.toNat ≤ 10 := by unfold z_c10; omega
    refine z_sqw_n (fun a => ?_)
    have h9 := hnu (bb (z_atN M))
    have e := z_c10f (m := m.toNat) (q := (nu (bb (z_atN M))).toNat) (by omega) (by omega)
    omega
/-- what ends it -/
theorem z_SQa {m i : Int} (hI : z_SI bb nn nu M0 M m i) (hs : z_ok M → z_atN M0 ≤ nn → z_sqw bb nn nu (z_atN M) m.toNat = (z_atN M, m.toNat)) (hm : m ≠ 0) : z_SQ bb nn nu M0 M m := by
  refine ⟨hI.1, fun k h4 => ?_⟩
  rcases hI.2 k h4 with ⟨a1, a2⟩ | ⟨a1, a2, a3, a4, a5, a6⟩
  · exact Or.inl ⟨a1, a2⟩
  · rw [hs a1 h4] at a6
    have h0 : ¬ (m.toNat = 0) := by omega
    have a6 : z_qs bb nn nu (z_atN M0) = (if m.toNat = 0 then none else some (z_atN M, m.toNat)) := a6
    rw [if_neg h0] at a6
    exact Or.inr ⟨_, _, a6, a1, rfl, by omega, by omega⟩
theorem z_SQf {m i x : Int} (hI : z_SI bb nn nu M0 M m i) (hs : z_ok M → z_atN M0 ≤ nn → z_sqw bb nn nu (z_atN M) m.toNat = (z_atN M, m.toNat)) (hm : m = 0) (hF : ¬ z_ok M1) : z_SQ bb nn nu M0 M1 x := by
  refine ⟨fun _ => hF, fun k h4 => Or.inl ⟨?_, hF⟩⟩
  rcases hI.2 k h4 with ⟨a1, a2⟩ | ⟨a1, a2, a3, a4, a5, a6⟩
  · exact a1
  · rw [hs a1 h4] at a6
    have h0 : m.toNat = 0 := by omega
    have a6 : z_qs bb nn nu (z_atN M0) = (if m.toNat = 0 then none else some (z_atN M, m.toNat)) := a6
    rw [if_pos h0] at a6
    exact a6
theorem z_TP.nu9 {T : List zK} (hT : z_TP M bb nn nu BB) (hW : z_W M T) : ∀ c, nu c ≤ 9 := fun c => by
  by_cases h : c < 97 ∨ 107 ≤ c
  · have := hT.2.2.2.2.1 c h
    omega
  · have k7 := hW.k (k := 7) (κ := z_ai 7 10 (-1) 9) rfl (by decide)
    obtain ⟨f, e1, e2, e3⟩ := hW.ai k7 (by decide)
    have h1 := hT.2.2.2.1 (c - 97).toNat (by omega)
    have h2 := (e3 (c - 97).toNat (by omega)).2
    rw [e2] at h1
    have h3 : (97 : Int) + (((c - 97).toNat : Nat) : Int) = c := by omega
    rw [h3] at h1
    omega
end ZT3
/-- the questions' names -/
def z_ci (nu : Int → Int) (c : Int) : Nat := if 0 ≤ nu c then 1 else 0
def z_cnu (nu : Int → Int) : Nat := z_ci nu 97 + z_ci nu 98 + z_ci nu 99 + z_ci nu 100 + z_ci nu 101 + z_ci nu 102 + z_ci nu 103 + z_ci nu 104 + z_ci nu 105 + z_ci nu 106
theorem z_ci1 (nu : Int → Int) (c : Int) : z_ci nu c ≤ 1 := by
  unfold z_ci
  by_cases h : 0 ≤ nu c
  · rw [if_pos h]; exact Nat.le_refl 1
  · rw [if_neg h]; exact Nat.zero_le 1
theorem z_ciu {nu : Int → Int} {c d : Int} {k : Int} (h : d ≠ c) : z_ci (fun x => if x = c then k else nu x) d = z_ci nu d := by
  show (if 0 ≤ (if d = c then k else nu d) then 1 else 0) = (if 0 ≤ nu d then 1 else 0)
  rw [if_neg h]
theorem z_cie {nu : Int → Int} {c : Int} {k : Int} (h : 0 ≤ k) : z_ci (fun x => if x = c then k else nu x) c = 1 := by
  show (if 0 ≤ (if c = c then k else nu c) then 1 else 0) = 1
  rw [if_pos rfl, if_pos h]
theorem z_cid {nu : Int → Int} {c k : Int} (h : nu c < 0) (hk : 0 ≤ k) (d : Int) : (d = c ∧ z_ci (fun x => if x = c then k else nu x) d = 1 ∧ z_ci nu d = 0) ∨ (d ≠ c ∧ z_ci (fun x => if x = c then k else nu x) d = z_ci nu d) := by
  by_cases e : d = c
  · subst e
    refine Or.inl ⟨rfl, z_cie hk, ?_⟩
    unfold z_ci
    rw [if_neg (by omega)]
  · exact Or.inr ⟨e, z_ciu e⟩
theorem z_cnu1 {nu : Int → Int} {c k : Int} (h0 : 97 ≤ c ∧ c ≤ 106) (h : nu c < 0) (hk : 0 ≤ k) : z_cnu (fun x => if x = c then k else nu x) = z_cnu nu + 1 := by
  have x0 := z_cid h hk 97
  have x1 := z_cid h hk 98
  have x2 := z_cid h hk 99
  have x3 := z_cid h hk 100
  have x4 := z_cid h hk 101
  have x5 := z_cid h hk 102
  have x6 := z_cid h hk 103
  have x7 := z_cid h hk 104
  have x8 := z_cid h hk 105
  have x9 := z_cid h hk 106
  unfold z_cnu
  have hd : c = 97 ∨ c = 98 ∨ c = 99 ∨ c = 100 ∨ c = 101 ∨ c = 102 ∨ c = 103 ∨ c = 104 ∨ c = 105 ∨ c = 106 := by omega
  rcases hd with e | e | e | e | e | e | e | e | e | e <;> omega
theorem z_cnuF {nu : Int → Int} {c : Int} (h : z_cnu nu = 10) (h0 : 97 ≤ c ∧ c ≤ 106) : 0 ≤ nu c := by
  have a0 := z_ci1 nu 97
  have a1 := z_ci1 nu 98
  have a2 := z_ci1 nu 99
  have a3 := z_ci1 nu 100
  have a4 := z_ci1 nu 101
  have a5 := z_ci1 nu 102
  have a6 := z_ci1 nu 103
  have a7 := z_ci1 nu 104
  have a8 := z_ci1 nu 105
  have a9 := z_ci1 nu 106
  have hz : z_ci nu c = 1 := by
    unfold z_cnu at h
    have hd : c = 97 ∨ c = 98 ∨ c = 99 ∨ c = 100 ∨ c = 101 ∨ c = 102 ∨ c = 103 ∨ c = 104 ∨ c = 105 ∨ c = 106 := by omega
    rcases hd with rfl | rfl | rfl | rfl | rfl | rfl | rfl | rfl | rfl | rfl <;> omega
  unfold z_ci at hz
  by_cases h1 : 0 ≤ nu c
  · exact h1
  · rw [if_neg h1] at hz
    cases hz
def z_n0 : Int → Int := fun _ => -1
theorem z_cnu0 : z_cnu z_n0 = 0 := by decide
def z_NI (bb : Nat → Int) (nn : Nat) (BB : Nat) (M0 M : zH) (i : Int) : Prop := ∃ nu, z_TP M bb nn nu BB ∧ (¬ z_ok M0 → ¬ z_ok M) ∧ (z_ok M0 → z_atN M0 ≤ nn → z_ok M ∧ z_atN M ≤ nn ∧ (z_Fv M 5 4).toInt = i ∧ i = (z_cnu nu : Int) ∧ z_nqw bb nn (z_atN M0) 0 z_n0 = z_nqw bb nn (z_atN M) i.toNat nu)
def z_NQR (bb : Nat → Int) (nn : Nat) (BB : Nat) (M0 M1 : zH) : Prop := ∃ nu, z_TP M1 bb nn nu BB ∧ (¬ z_ok M0 → ¬ z_ok M1) ∧ (z_ok M0 → z_atN M0 ≤ nn → ((z_nqw bb nn (z_atN M0) 0 z_n0).2.1 = 0 ∧ ¬ z_ok M1) ∨ (z_ok M1 ∧ z_atN M1 ≤ nn ∧ ∃ k : Nat, k ≠ 0 ∧ (z_Fv M1 5 4).toInt = (k : Int) ∧ z_nqw bb nn (z_atN M0) 0 z_n0 = (z_atN M1, k, nu)))
section ZT4
variable {bb : Nat → Int} {nn : Nat} {nu : Int → Int} {BB : Nat} {M M0 M1 M2 M3 M4 : zH}
theorem z_NI0 {z : Int32} (hT : z_TP M0 bb nn z_n0 BB) (hz : z_F M0 5 4 = some (.int z)) (h0 : z.toInt = 0) : z_NI bb nn BB M0 M0 0 := ⟨z_n0, hT, fun a => a, fun h h2 => ⟨h, h2, by rw [z_Fv.of hz]; exact h0, by rw [z_cnu0]; rfl, rfl⟩⟩
theorem z_TP.num (hT : z_TP M bb nn nu BB) (e6 : z_Ar M1 6 = z_Ar M 6) (e1 : z_F M1 5 1 = z_F M 5 1) (e10 : z_F M1 5 10 = z_F M 5 10) (e2 : z_Lg M1 2 = z_Lg M 2) {l v : Int32} (e7 : z_Ar M1 7 = upd (z_Ar M 7) l.toNatClampNeg v) (hl : 0 ≤ l.toInt ∧ l.toInt < 10) {c k : Int} (hc : c = 97 + l.toInt) (hk : k = v.toInt) : z_TP M1 bb nn (fun x => if x = c then k else nu x) BB := by
  obtain ⟨h1, h2, h3, h4, h5, h6, h7⟩ := hT
  refine ⟨fun j => by rw [e6]; exact h1 j, by rw [z_FvK e1]; exact h2, h3, fun j hj => ?_, fun d hd => ?_, by rw [z_FvK e10]; exact h6, fun q hq => by rw [e2]; exact h7 q hq⟩
  · rw [e7]
    show (if j = l.toInt.toNat then v else z_Ar M 7 j).toInt = if (97 : Int) + (j : Int) = c then k else nu (97 + (j : Int))
    by_cases e : j = l.toInt.toNat
    · have e8 : (97 : Int) + (j : Int) = c := by omega
      rw [if_pos e, if_pos e8, hk]
    · have e8 : ¬ ((97 : Int) + (j : Int) = c) := by omega
      rw [if_neg e, if_neg e8]
      exact h4 j hj
  · show (if d = c then k else nu d) < 0
    have e8 : ¬ (d = c) := by omega
    rw [if_neg e8]
    exact h5 d hd
theorem z_NIs {fa a a2 ln yb l v qv q2 : Int32} {i i2 : Int} (hI : z_NI bb nn BB M0 M i) (hf : z_F M 5 3 = some (.int fa)) (hf0 : fa.toInt < 0) (ha : z_F M 5 2 = some (.int a)) (hl : z_F M 5 1 = some (.int ln)) (hal : a.toInt < ln.toInt ∧ 0 ≤ a.toInt) (hb : z_Ar M 6 a.toNatClampNeg = yb) (hy : l.toInt = yb.toInt - 97 ∧ 0 ≤ l.toInt ∧ l.toInt < 10) (hv : z_Ar M 7 l.toNatClampNeg = v) (hv0 : v.toInt < 0) (hq : z_F M 5 4 = some (.int qv)) (e7 : z_Ar M1 7 = upd (z_Ar M 7) l.toNatClampNeg qv) (e6 : z_Ar M1 6 = z_Ar M 6) (e1 : z_F M1 5 1 = z_F M 5 1) (e10 : z_F M1 5 10 = z_F M 5 10) (e2 : z_Lg M1 2 = z_Lg M 2) (e3 : z_F M1 5 3 = z_F M 5 3) (hq2 : z_F M1 5 4 = some (.int q2)) (hqq : q2.toInt = qv.toInt + 1 ∧ 0 ≤ qv.toInt) (ha2 : z_F M1 5 2 = some (.int a2)) (haa : a2.toInt = a.toInt + 1) (hi : i2 = i + 1) : z_NI bb nn BB M0 M1 i2 := by
  obtain ⟨nu, hT, h1, h2⟩ := hI
  have hby := hT.byte ha hb
  have hlen := hT.len hl
  have hat := z_atF ha
  have hat2 : z_atN M1 = z_atN M + 1 := by rw [z_atF ha2, hat]; omega
  have hlt : z_atN M < nn := by omega
  have hnu : nu (bb (z_atN M)) = v.toInt := by
    have e := hT.2.2.2.1 l.toInt.toNat (by omega)
    have hv : z_Ar M 7 l.toInt.toNat = v := hv
    have e8 : (97 : Int) + ((l.toInt.toNat : Nat) : Int) = bb (z_atN M) := by omega
    rw [hv, e8] at e
    exact e.symm
  refine ⟨fun x => if x = bb (z_atN M) then qv.toInt else nu x, hT.num e6 e1 e10 e2 e7 hy.2 (by omega) rfl, fun c => absurd (z_okY hf hf0) (h1 c), fun k0 k1 => ?_⟩
  obtain ⟨a1, a3, a4, a5, a6⟩ := h2 k0 k1
  have hqi : qv.toInt = i := by rw [z_Fv.of hq] at a4; exact a4
  refine ⟨(z_okK e3).mpr a1, by omega, by rw [z_Fv.of hq2]; omega, ?_, ?_⟩
  · rw [z_cnu1 (by omega) (by omega) (by omega)]
    omega
  · rw [a6, z_nqw_y (p := z_atN M) ⟨hlt, by omega, by omega, by omega⟩, hat2]
    have e9 : i2.toNat = i.toNat + 1 := by omega
    have e8 : qv.toInt = ((i.toNat : Nat) : Int) := by omega
    rw [e9, e8]
/-- what ends the names -/
theorem z_NIa {i : Int} (hI : z_NI bb nn BB M0 M i) (hs : ∀ nu, z_TP M bb nn nu BB → z_ok M → i = (z_cnu nu : Int) → ¬ (z_atN M < nn ∧ 97 ≤ bb (z_atN M) ∧ bb (z_atN M) ≤ 106 ∧ nu (bb (z_atN M)) < 0)) {q : Int32} (hq : z_F M 5 4 = some (.int q)) (h0 : q.toInt ≠ 0) : z_NQR bb nn BB M0 M := by
  obtain ⟨nu, hT, h1, h2⟩ := hI
  refine ⟨nu, hT, h1, fun k0 k1 => ?_⟩
  obtain ⟨a1, a3, a4, a5, a6⟩ := h2 k0 k1
  rw [z_nqw_n (hs nu hT a1 a5)] at a6
  have e := z_Fv.of hq
  rw [e] at a4
  exact Or.inr ⟨a1, a3, i.toNat, by omega, by rw [e]; omega, a6⟩
theorem z_NIf {i : Int} (hI : z_NI bb nn BB M0 M i) (hs : ∀ nu, z_TP M bb nn nu BB → z_ok M → i = (z_cnu nu : Int) → ¬ (z_atN M < nn ∧ 97 ≤ bb (z_atN M) ∧ bb (z_atN M) ≤ 106 ∧ nu (bb (z_atN M)) < 0)) {q : Int32} (hq : z_F M 5 4 = some (.int q)) (h0 : q.toInt = 0) (hF : ¬ z_ok M1) {T : List zK} {rs : List Nat} {M' : zH} (hW : z_W M' T) (hX : z_X T rs M M1) (hr : z_dj [2, 6, 7, 1101, 1110] rs = true) : z_NQR bb nn BB M0 M1 := by
  obtain ⟨nu, hT, h1, h2⟩ := hI
  refine ⟨nu, hT.go hW hX hr, fun _ => hF, fun k0 k1 => ?_⟩
  obtain ⟨a1, a3, a4, a5, a6⟩ := h2 k0 k1
  rw [z_nqw_n (hs nu hT a1 a5)] at a6
  rw [z_Fv.of hq] at a4
  refine Or.inl ⟨?_, hF⟩
  rw [a6]
  show i.toNat = 0
  omega
theorem z_nsA {i : Int} {fa : Int32} (hf : z_F M 5 3 = some (.int fa)) (h : 0 ≤ fa.toInt) : ∀ nu, z_TP M bb nn nu BB → z_ok M → i = (z_cnu nu : Int) → ¬ (z_atN M < nn ∧ 97 ≤ bb (z_atN M) ∧ bb (z_atN M) ≤ 106 ∧ nu (bb (z_atN M)) < 0) := fun _ _ a => absurd a (z_okN hf h)
theorem z_nsB {i : Int} {a ln : Int32} (ha : z_F M 5 2 = some (.int a)) (hl : z_F M 5 1 = some (.int ln)) (h : ln.toInt ≤ a.toInt) : ∀ nu, z_TP M bb nn nu BB → z_ok M → i = (z_cnu nu : Int) → ¬ (z_atN M < nn ∧ 97 ≤ bb (z_atN M) ∧ bb (z_atN M) ≤ 106 ∧ nu (bb (z_atN M)) < 0) := fun nu hT _ _ c => by
  have e := hT.len hl
  rw [z_atF ha] at c
  omega
theorem z_nsC {i : Int} {a y : Int32} (ha : z_F M 5 2 = some (.int a)) (hb : z_Ar M 6 a.toNatClampNeg = y) (h : y.toInt < 97 ∨ 107 ≤ y.toInt) : ∀ nu, z_TP M bb nn nu BB → z_ok M → i = (z_cnu nu : Int) → ¬ (z_atN M < nn ∧ 97 ≤ bb (z_atN M) ∧ bb (z_atN M) ≤ 106 ∧ nu (bb (z_atN M)) < 0) := fun nu hT _ _ c => by
  rw [hT.byte ha hb] at c
  omega
theorem z_nsD {i : Int} {a y l v : Int32} (ha : z_F M 5 2 = some (.int a)) (hb : z_Ar M 6 a.toNatClampNeg = y) (hy : l.toInt = y.toInt - 97 ∧ 0 ≤ l.toInt ∧ l.toInt < 10) (hv : z_Ar M 7 l.toNatClampNeg = v) (h : 0 ≤ v.toInt) : ∀ nu, z_TP M bb nn nu BB → z_ok M → i = (z_cnu nu : Int) → ¬ (z_atN M < nn ∧ 97 ≤ bb (z_atN M) ∧ bb (z_atN M) ≤ 106 ∧ nu (bb (z_atN M)) < 0) := fun nu hT _ _ c => by
  rw [hT.byte ha hb] at c
  have e := hT.2.2.2.1 l.toInt.toNat (by omega)
  have hv : z_Ar M 7 l.toInt.toNat = v := hv
  have e8 : (97 : Int) + ((l.toInt.toNat : Nat) : Int) = y.toInt := by omega
  rw [hv, e8] at e
  omega
theorem z_nsE {i : Int} (h : 10 ≤ i) : ∀ nu, z_TP M bb nn nu BB → z_ok M → i = (z_cnu nu : Int) → ¬ (z_atN M < nn ∧ 97 ≤ bb (z_atN M) ∧ bb (z_atN M) ≤ 106 ∧ nu (bb (z_atN M)) < 0) := fun nu hT _ hi c => by
  have a0 := z_ci1 nu 97
  have a1 := z_ci1 nu 98
  have a2 := z_ci1 nu 99
  have a3 := z_ci1 nu 100
  have a4 := z_ci1 nu 101
  have a5 := z_ci1 nu 102
  have a6 := z_ci1 nu 103
  have a7 := z_ci1 nu 104
  have a8 := z_ci1 nu 105
  have a9 := z_ci1 nu 106
  have h10 : z_cnu nu ≤ 10 := by unfold z_cnu; omega
  have := z_cnuF (nu := nu) (c := bb (z_atN M)) (by omega) ⟨c.2.1, c.2.2.1⟩
  omega
end ZT4
/-- premises, ends, ties so far -/
def z_sg (M : zH) (pr en t : Nat) (ts : Nat → Nat) : Prop := (z_Fv M 5 5).toInt = (pr : Int) ∧ (z_Fv M 5 6).toInt = (en : Int) ∧ (z_Fv M 5 7).toInt = (t : Int) ∧ pr < 1024 ∧ en < 1024 ∧ ∀ i : Nat, i < t → (z_Ar M 8 i).toInt = (ts i : Int)
def z_AP (bb : Nat → Int) (nn : Nat) (nu : Int → Int) (M0 M1 : zH) (pr en t : Nat) (ts : Nat → Nat) : Prop := (¬ z_ok M0 → ¬ z_ok M1) ∧ (z_ok M0 → z_atN M0 < nn → (z_ptw bb nn nu (z_atN M0) pr en t ts = none ∧ ¬ z_ok M1) ∨ ∃ pr2 en2 t2 ts2, z_ok M1 ∧ z_atN M0 < z_atN M1 ∧ z_atN M1 ≤ nn ∧ z_sg M1 pr2 en2 t2 ts2 ∧ z_ptw bb nn nu (z_atN M0) pr en t ts = z_ptw bb nn nu (z_atN M1) pr2 en2 t2 ts2)
