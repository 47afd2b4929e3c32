/-! the class reads a tie: how its parts go together -/
def z_fn (bb : Nat → Int) (nn : Nat) (l : Int) (r : zPR) : zPR := match r with
  | none => none
  | some (q, f) => if q < nn ∧ bb q = 125 then some (q + 1, fun s => if l ≤ (f s : Int) then 1 else 0) else none
def z_lea (bb : Nat → Int) (nn : Nat) (g : Nat → zPR) (p : Nat) (l : Int) : zPR := if p < nn ∧ bb p = 123 then z_fn bb nn l (z_liw bb nn g (p + 1) (fun _ => 0)) else none
theorem z_one_lea2 {bb : Nat → Int} {nn : Nat} {nu : Int → Int} {d p : Nat} (h0 : ¬ (p < nn ∧ 0 ≤ nu (bb p))) (h : p < nn ∧ 49 ≤ bb p ∧ bb p ≤ 57) : z_one bb nn nu (d + 1) p = z_lea bb nn (z_one bb nn nu d) (p + 1) (bb p - 48) := by
  unfold z_lea
  by_cases c : p + 1 < nn ∧ bb (p + 1) = 123
  · rw [if_pos c, z_one_lea h0 ⟨c.1, h.2.1, h.2.2, c.2⟩]
    rfl
  · rw [if_neg c]
    exact z_one_none _ h0 (fun a => by omega) (fun a => by omega) (fun a => c ⟨a.1, a.2.2.2⟩)
theorem z_PS0 {bb : Nat → Int} {nn : Nat} {M0 M1 : zH} {c x : Int} (h : z_PS bb nn M0 M1 c x) (hx : x = 0) : M1 = M0 ∧ ¬ (z_ok M0 ∧ z_atN M0 < nn ∧ bb (z_atN M0) = c) := h.elim (fun a => absurd (a.1.symm.trans hx) (by decide)) (fun a => a.2)
theorem z_PS1 {bb : Nat → Int} {nn : Nat} {M0 M1 : zH} {c x : Int} (h : z_PS bb nn M0 M1 c x) (hx : x ≠ 0) : z_ok M0 ∧ z_ok M1 ∧ z_atN M0 < nn ∧ bb (z_atN M0) = c ∧ z_atN M1 = z_atN M0 + 1 := h.elim (fun a => a.2) (fun a => absurd a.1 hx)
theorem z_fr9.refl {k : Nat} {M : zH} : z_fr9 k M M := fun _ _ => rfl
theorem z_fr9.tr {k k2 : Nat} {M M1 M2 : zH} (h : z_fr9 k M M1) (h2 : z_fr9 k2 M1 M2) (hk : k ≤ k2) : z_fr9 k M M2 := fun i hi => (h2 i (Nat.lt_of_lt_of_le hi hk)).trans (h i hi)
theorem z_fr9.fil {k lo hi : Nat} {v : Int64} {M M1 M2 : zH} (h : z_fr9 k M M1) (hf : z_Lg M2 9 = z_fil (z_Lg M1 9) lo hi v) (hk : k ≤ lo) : z_fr9 k M M2 := fun i hi2 => by
  rw [hf]
  show (if lo ≤ i ∧ i < hi then v else z_Lg M1 9 i) = z_Lg M 9 i
  have c : ¬ (lo ≤ i ∧ i < hi) := by omega
  rw [if_neg c]
  exact h i hi2
theorem z_fr9.st {k j : Nat} {v : Int64} {M M1 M2 : zH} (h : z_fr9 k M M1) (hs : z_Lg M2 9 = z_updL (z_Lg M1 9) j v) (hk : k ≤ j) : z_fr9 k M M2 := fun i hi2 => by
  rw [hs]
  show (if i = j then v else z_Lg M1 9 i) = z_Lg M 9 i
  have c : ¬ (i = j) := by omega
  rw [if_neg c]
  exact h i hi2
theorem z_fr9.ke {k : Nat} {M M1 M2 : zH} {T : List zK} {rs : List Nat} (h : z_fr9 k M M1) {M' : zH} (hW : z_W M' T) (ke : z_ke T rs M1 M2) (hr : ¬ 9 ∈ rs) : z_fr9 k M M2 := fun i hi => (congrFun (ke.lg (hW.k (k := 9) (κ := z_al 9 70) rfl (by decide)) hr) i).trans (h i hi)
section ZT2
variable {bb : Nat → Int} {nn : Nat} {nu : Int → Int} {BB : Nat} {M M0 M1 M2 M3 M4 : zH}
theorem z_QHl {x : Int} {a a2 : Int32} (hT : z_TP M bb nn nu BB) (hQ : z_QH bb nn nu M x) (hx : 0 ≤ x) (ha : z_F M 5 2 = some (.int a)) (h : a2.toInt = a.toInt + 1) (h0 : 0 ≤ a.toInt) : a2.toInt ≤ 160 := by
  obtain ⟨_, h1, h2, h3⟩ := hQ.resolve_right (fun a => absurd a.1 (by omega))
  have e := hT.2.2.1.1
  rw [z_atF ha] at h2
  omega
/-- a question -/
theorem z_simQ (d : Nat) {x : Int} {a a2 : Int32} {y : Int64} (hQ : z_QH bb nn nu M0 x) (hx : 0 ≤ x) (ha : z_F M0 5 2 = some (.int a)) (hn : z_F M1 5 2 = some (.int a2)) (h : a2.toInt = a.toInt + 1 ∧ 0 ≤ a.toInt) (hf : z_F M1 5 3 = z_F M0 5 3) (hv : z_bv y (z_bit x.toNat) BB) : z_PC nn M0 M1 (z_one bb nn nu d (z_atN M0)) (fun f => z_bv y f BB) := by
  obtain ⟨_, h1, h2, h3⟩ := hQ.resolve_right (fun a => absurd a.1 (by omega))
  refine ⟨fun c => absurd h1 c, fun _ _ => Or.inr ⟨_, _, z_one_ques d ⟨h2, by omega⟩, (z_okK hf).mpr h1, ?_, ?_⟩⟩
  · rw [z_atF hn, z_atF ha]; omega
  · rw [h3]; exact hv
/-- ! -/
theorem z_simN {x c1 : Int} {o v : Int32} {y w : Int64} (hQ : z_QH bb nn nu M0 x) (hx : x < 0) (ho : 0 ≤ o.toInt ∧ o.toInt < 6 ∧ v.toInt = o.toInt + 1) (hP : z_PS bb nn M0 M1 33 c1) (hc1 : c1 ≠ 0) (hS : z_PC nn M1 M2 (z_one bb nn nu (6 - v.toInt.toNat) (z_atN M1)) (fun f => z_bv y f BB)) (he : w = y ^^^ (-1)) : z_PC nn M0 M2 (z_one bb nn nu (6 - o.toInt.toNat) (z_atN M0)) (fun f => z_bv w f BB) := by
  obtain ⟨p1, p2, p3, p4, p5⟩ := z_PS1 hP hc1
  have hq := (hQ.resolve_left (fun a => absurd a.1 (by omega))).2
  have hd : 6 - o.toInt.toNat = (6 - v.toInt.toNat) + 1 := by omega
  refine ⟨fun c => absurd p1 c, fun _ _ => ?_⟩
  rw [hd, z_one_not (fun a => hq ⟨p1, a.1, a.2⟩) ⟨p3, p4⟩, ← p5]
  rcases hS.2 p2 (by omega) with ⟨a1, a2⟩ | ⟨q, f, a1, a2, a3, a4⟩
  · exact Or.inl ⟨by rw [a1], a2⟩
  · exact Or.inr ⟨q, _, by rw [a1], a2, a3, z_bvNot a4 he⟩
/-- ( ) -/
theorem z_simP {x c1 c2 : Int} {o v : Int32} {y : Int64} (hQ : z_QH bb nn nu M0 x) (hx : x < 0) (ho : 0 ≤ o.toInt ∧ o.toInt < 6 ∧ v.toInt = o.toInt + 1) (hP : z_PS bb nn M0 M1 33 c1) (hc1 : c1 = 0) (hP2 : z_PS bb nn M1 M2 40 c2) (hc2 : c2 ≠ 0) (hS : z_PC nn M2 M3 (z_ti bb nn (z_one bb nn nu (6 - v.toInt.toNat)) (z_atN M2)) (fun f => z_bv y f BB)) (hE : z_EX bb nn M3 M4 41) : z_PC nn M0 M4 (z_one bb nn nu (6 - o.toInt.toNat) (z_atN M0)) (fun f => z_bv y f BB) := by
  obtain ⟨e1, _⟩ := z_PS0 hP hc1
  subst e1
  obtain ⟨p1, p2, p3, p4, p5⟩ := z_PS1 hP2 hc2
  have hq := (hQ.resolve_left (fun a => absurd a.1 (by omega))).2
  have hd : 6 - o.toInt.toNat = (6 - v.toInt.toNat) + 1 := by omega
  refine ⟨fun c => absurd p1 c, fun _ _ => ?_⟩
  rw [hd, z_one_par (fun a => hq ⟨p1, a.1, a.2⟩) ⟨p3, p4⟩, ← p5]
  rcases hS.2 p2 (by omega) with ⟨a1, a2⟩ | ⟨q, f, a1, a2, a3, a4⟩
  · refine Or.inl ⟨by rw [a1], ?_⟩
    exact hE.elim (fun a => absurd a.1 a2) (fun a => a.1)
  · rw [a1]
    show ((if q < nn ∧ bb q = 41 then some (q + 1, f) else none) = none ∧ _) ∨ ∃ q_1 f_1, (if q < nn ∧ bb q = 41 then some (q + 1, f) else none) = some (q_1, f_1) ∧ _
    rcases hE with ⟨_, b2, b3, b4, b5⟩ | ⟨b1, b2⟩
    · rw [a3] at b3 b4 b5
      rw [if_pos ⟨b3, b4⟩]
      exact Or.inr ⟨q + 1, f, rfl, b2, b5, a4⟩
    · rw [a3] at b2
      rw [if_neg (fun a => b2 ⟨a2, a.1, a.2⟩)]
      exact Or.inl ⟨rfl, b1⟩
/-- k { } -/
theorem z_simL {x c1 c2 : Int} {o v a a2 fa ln yb l : Int32} {y : Int64} (hT : z_TP M0 bb nn nu BB) (hQ : z_QH bb nn nu M0 x) (hx : x < 0) (ho : 0 ≤ o.toInt ∧ o.toInt < 6 ∧ v.toInt = o.toInt + 1) (hP : z_PS bb nn M0 M1 33 c1) (hc1 : c1 = 0) (hP2 : z_PS bb nn M1 M2 40 c2) (hc2 : c2 = 0) (hf : z_F M2 5 3 = some (.int fa)) (hf0 : fa.toInt < 0) (ha : z_F M2 5 2 = some (.int a)) (hl : z_F M2 5 1 = some (.int ln)) (hal : a.toInt < ln.toInt ∧ 0 ≤ a.toInt) (hb : z_Ar M2 6 a.toNatClampNeg = yb) (hle : l.toInt = yb.toInt - 48 ∧ 1 ≤ l.toInt ∧ l.toInt ≤ 9) (hn : z_F M3 5 2 = some (.int a2)) (ha2 : a2.toInt = a.toInt + 1) (hf3 : z_F M3 5 3 = z_F M2 5 3) (hS : z_PC nn M3 M4 (z_lea bb nn (z_one bb nn nu (6 - v.toInt.toNat)) (z_atN M3) l.toInt) (fun f => z_bv y f BB)) : z_PC nn M0 M4 (z_one bb nn nu (6 - o.toInt.toNat) (z_atN M0)) (fun f => z_bv y f BB) := by
  obtain ⟨e1, _⟩ := z_PS0 hP hc1
  subst e1
  obtain ⟨e2, _⟩ := z_PS0 hP2 hc2
  subst e2
  have p1 := z_okY hf hf0
  have hlen := hT.len hl
  have hby := hT.byte ha hb
  have hat := z_atF ha
  have hq := (hQ.resolve_left (fun a => absurd a.1 (by omega))).2
  have hd : 6 - o.toInt.toNat = (6 - v.toInt.toNat) + 1 := by omega
  have h3 : z_atN M3 = z_atN M2 + 1 := by rw [z_atF hn, hat]; omega
  have hlt : z_atN M2 < nn := by omega
  have hl2 : bb (z_atN M2) - 48 = l.toInt := by omega
  refine ⟨fun c => absurd p1 c, fun _ _ => ?_⟩
  rw [hd, z_one_lea2 (fun a => hq ⟨p1, a.1, a.2⟩) ⟨hlt, by omega, by omega⟩, hl2, ← h3]
  exact hS.2 ((z_okK hf3).mpr p1) (by omega)
/-- nothing that may stand there -/
theorem z_simF6 {x : Int} {o : Int32} {W : (Nat → Nat) → Prop} (hQ : z_QH bb nn nu M0 x) (hx : x < 0) (ho : 6 ≤ o.toInt) (hF : ¬ z_ok M1) : z_PC nn M0 M1 (z_one bb nn nu (6 - o.toInt.toNat) (z_atN M0)) W := by
  have hq := (hQ.resolve_left (fun a => absurd a.1 (by omega))).2
  have hd : 6 - o.toInt.toNat = 0 := by omega
  refine ⟨fun _ => hF, fun h _ => Or.inl ⟨?_, hF⟩⟩
  rw [hd]
  exact z_one_full (fun a => hq ⟨h, a.1, a.2⟩)
theorem z_simF {x c1 c2 : Int} {o : Int32} {W : (Nat → Nat) → Prop} (hQ : z_QH bb nn nu M0 x) (hx : x < 0) (hP : z_PS bb nn M0 M1 33 c1) (hc1 : c1 = 0) (hP2 : z_PS bb nn M1 M2 40 c2) (hc2 : c2 = 0) (hD : z_ok M2 → z_atN M2 < nn → ¬ (49 ≤ bb (z_atN M2) ∧ bb (z_atN M2) ≤ 57)) (hF : ¬ z_ok M3) : z_PC nn M0 M3 (z_one bb nn nu (6 - o.toInt.toNat) (z_atN M0)) W := by
  obtain ⟨e1, n1⟩ := z_PS0 hP hc1
  subst e1
  obtain ⟨e2, n2⟩ := z_PS0 hP2 hc2
  subst e2
  have hq := (hQ.resolve_left (fun a => absurd a.1 (by omega))).2
  refine ⟨fun _ => hF, fun h _ => Or.inl ⟨?_, hF⟩⟩
  exact z_one_none _ (fun a => hq ⟨h, a.1, a.2⟩) (fun a => n1 ⟨h, a.1, a.2⟩) (fun a => n2 ⟨h, a.1, a.2⟩) (fun a => hD h (by omega) ⟨a.2.1, a.2.2.1⟩)
theorem z_nodA {fa : Int32} (hf : z_F M 5 3 = some (.int fa)) (h : 0 ≤ fa.toInt) : z_ok M → z_atN M < nn → ¬ (49 ≤ bb (z_atN M) ∧ bb (z_atN M) ≤ 57) := fun a => absurd a (z_okN hf h)
theorem z_nodB {a ln : Int32} (hT : z_TP M bb nn nu BB) (ha : z_F M 5 2 = some (.int a)) (hl : z_F M 5 1 = some (.int ln)) (h : ln.toInt ≤ a.toInt) : z_ok M → z_atN M < nn → ¬ (49 ≤ bb (z_atN M) ∧ bb (z_atN M) ≤ 57) := fun _ c => by
  have e := hT.len hl
  rw [z_atF ha] at c
  omega
theorem z_nodC {a y : Int32} (hT : z_TP M bb nn nu BB) (ha : z_F M 5 2 = some (.int a)) (hb : z_Ar M 6 a.toNatClampNeg = y) (h : y.toInt < 49 ∨ 57 < y.toInt) : z_ok M → z_atN M < nn → ¬ (49 ≤ bb (z_atN M) ∧ bb (z_atN M) ≤ 57) := fun _ _ c => by
  rw [hT.byte ha hb] at c
  omega
/-- O -/
def z_EI (bb : Nat → Int) (nn : Nat) (g : Nat → zPR) (BB : Nat) (M0 M : zH) (y2 y4 : Int64) (i : Int) : Prop := (¬ z_ok M0 → ¬ z_ok M) ∧ (z_ok M0 → z_atN M0 ≤ nn → (z_ei bb nn g (z_atN M0) = none ∧ ¬ z_ok M) ∨ (z_ok M ∧ z_atN M ≤ nn ∧ i ≤ (z_atN M : Int) ∧ ∃ u v, z_ei bb nn g (z_atN M0) = z_clw bb nn g (z_atN M) u v ∧ z_bv y2 u BB ∧ z_bv y4 v BB))
theorem z_EI0 {g : Nat → zPR} {y : Int64} (hg : z_pg nn g) (hS : z_PC nn M0 M1 (g (z_atN M0)) (fun f => z_bv y f BB)) : z_EI bb nn g BB M0 M1 0 y 0 := by
  refine ⟨hS.1, fun h h2 => ?_⟩
  rcases hS.2 h h2 with ⟨a1, a2⟩ | ⟨q, f, a1, a2, a3, a4⟩
  · exact Or.inl ⟨by unfold z_ei; rw [a1], a2⟩
  · have hq := hg _ _ _ a1
    refine Or.inr ⟨a2, by omega, by omega, fun _ => 0, f, ?_, z_bvZ BB, a4⟩
    unfold z_ei
    rw [a1, a3]
theorem z_EIand {g : Nat → zPR} {y2 y4 e w : Int64} {i i2 c : Int} (hg : z_pg nn g) (hI : z_EI bb nn g BB M0 M y2 y4 i) (hP : z_PS bb nn M M1 38 c) (hc : c ≠ 0) (hS : z_PC nn M1 M2 (g (z_atN M1)) (fun f => z_bv e f BB)) (hw : w = y4 &&& e) (hi : i2 = i + 1) : z_EI bb nn g BB M0 M2 y2 w i2 := by
  obtain ⟨p1, p2, p3, p4, p5⟩ := z_PS1 hP hc
  refine ⟨fun a => absurd p1 (hI.1 a), fun h h2 => ?_⟩
  rcases hI.2 h h2 with ⟨a1, a2⟩ | ⟨a1, a2, a3, u, v, a4, a5, a6⟩
  · exact absurd p1 a2
  · rw [z_clw_and hg ⟨p3, p4⟩, ← p5] at a4
    rcases hS.2 p2 (by omega) with ⟨b1, b2⟩ | ⟨q, f, b1, b2, b3, b4⟩
    · rw [b1] at a4
      exact Or.inl ⟨a4, b2⟩
    · have hq := hg _ _ _ b1
      rw [b1] at a4
      refine Or.inr ⟨b2, by omega, by omega, u, fun s => v s * f s, ?_, a5, z_bvAnd a6 b4 hw⟩
      rw [a4, b3]
theorem z_EIor {g : Nat → zPR} {y2 y4 e w : Int64} {i i2 c c2 : Int} (hg : z_pg nn g) (hI : z_EI bb nn g BB M0 M y2 y4 i) (hP : z_PS bb nn M M1 38 c) (hc : c = 0) (hP2 : z_PS bb nn M1 M2 124 c2) (hc2 : c2 ≠ 0) (hS : z_PC nn M2 M3 (g (z_atN M2)) (fun f => z_bv e f BB)) (hw : w = y2 ||| y4) (hi : i2 = i + 1) : z_EI bb nn g BB M0 M3 w e i2 := by
  obtain ⟨e1, _⟩ := z_PS0 hP hc
  subst e1
  obtain ⟨p1, p2, p3, p4, p5⟩ := z_PS1 hP2 hc2
  refine ⟨fun a => absurd p1 (hI.1 a), fun h h2 => ?_⟩
  rcases hI.2 h h2 with ⟨a1, a2⟩ | ⟨a1, a2, a3, u, v, a4, a5, a6⟩
  · exact absurd p1 a2
  · rw [z_clw_or hg ⟨p3, p4⟩, ← p5] at a4
    rcases hS.2 p2 (by omega) with ⟨b1, b2⟩ | ⟨q, f, b1, b2, b3, b4⟩
    · rw [b1] at a4
      exact Or.inl ⟨a4, b2⟩
    · have hq := hg _ _ _ b1
      rw [b1] at a4
      refine Or.inr ⟨b2, by omega, by omega, fun s => max (u s) (v s), f, ?_, z_bvOr a5 a6 hw, b4⟩
      rw [a4, b3]
theorem z_EIe {g : Nat → zPR} {y2 y4 w : Int64} {i c c2 : Int} (hI : z_EI bb nn g BB M0 M y2 y4 i) (hP : z_PS bb nn M M1 38 c) (hc : c = 0) (hP2 : z_PS bb nn M1 M2 124 c2) (hc2 : c2 = 0) (hw : w = y2 ||| y4) : z_PC nn M0 M2 (z_ei bb nn g (z_atN M0)) (fun f => z_bv w f BB) := by
  obtain ⟨e1, n1⟩ := z_PS0 hP hc
  subst e1
  obtain ⟨e2, n2⟩ := z_PS0 hP2 hc2
  subst e2
  refine ⟨hI.1, fun h h2 => ?_⟩
  rcases hI.2 h h2 with ⟨a1, a2⟩ | ⟨a1, a2, a3, u, v, a4, a5, a6⟩
  · exact Or.inl ⟨a1, a2⟩
  · refine Or.inr ⟨_, _, a4.trans (z_clw_end (fun a => n1 ⟨a1, a.1, a.2⟩) (fun a => n2 ⟨a1, a.1, a.2⟩)), a1, rfl, z_bvOr a5 a6 hw⟩
theorem z_EIx {g : Nat → zPR} {y2 y4 w : Int64} {i : Int} (hI : z_EI bb nn g BB M0 M y2 y4 i) (hi : 160 ≤ i) (hn : nn ≤ 160) (hw : w = y2 ||| y4) : z_PC nn M0 M (z_ei bb nn g (z_atN M0)) (fun f => z_bv w f BB) := by
  refine ⟨hI.1, fun h h2 => ?_⟩
  rcases hI.2 h h2 with ⟨a1, a2⟩ | ⟨a1, a2, a3, u, v, a4, a5, a6⟩
  · exact Or.inl ⟨a1, a2⟩
  · refine Or.inr ⟨_, _, a4.trans (z_clw_end (fun a => by omega) (fun a => by omega)), a1, rfl, z_bvOr a5 a6 hw⟩
/-- T -/
theorem z_imA {g : Nat → zPR} {e : Int64} {c : Int} (hE : z_PC nn M M1 (z_ei bb nn g (z_atN M)) (fun f => z_bv e f BB)) (hP : z_PS bb nn M1 M2 62 c) (hc : c = 0) : z_PC nn M M2 (z_im bb nn g (z_atN M)) (fun f => z_bv e f BB) := by
  obtain ⟨e1, n1⟩ := z_PS0 hP hc
  subst e1
  refine ⟨hE.1, fun h h2 => ?_⟩
  rcases hE.2 h h2 with ⟨a1, a2⟩ | ⟨q, f, a1, a2, a3, a4⟩
  · exact Or.inl ⟨by unfold z_im; rw [a1], a2⟩
  · refine Or.inr ⟨q, f, ?_, a2, a3, a4⟩
    unfold z_im
    rw [a1]
    show (if q < nn ∧ bb q = 62 then _ else some (q, f)) = some (q, f)
    rw [if_neg (fun a => n1 ⟨a2, by rw [a3]; exact a.1, by rw [a3]; exact a.2⟩)]
theorem z_imB {g : Nat → zPR} {e e2 e3 w : Int64} {c : Int} (hE : z_PC nn M M1 (z_ei bb nn g (z_atN M)) (fun f => z_bv e f BB)) (hP : z_PS bb nn M1 M2 62 c) (hc : c ≠ 0) (hE2 : z_PC nn M2 M3 (z_ei bb nn g (z_atN M2)) (fun f => z_bv e2 f BB)) (he : e3 = e ^^^ (-1)) (hw : w = e3 ||| e2) : z_PC nn M M3 (z_im bb nn g (z_atN M)) (fun f => z_bv w f BB) := by
  obtain ⟨p1, p2, p3, p4, p5⟩ := z_PS1 hP hc
  refine ⟨fun a => absurd p1 (hE.1 a), fun h h2 => ?_⟩
  rcases hE.2 h h2 with ⟨a1, a2⟩ | ⟨q, f, a1, a2, a3, a4⟩
  · exact absurd p1 a2
  · have e1 : z_im bb nn g (z_atN M) = match z_ei bb nn g (z_atN M2) with
      | none => none
      | some (q2, f2) => some (q2, fun s => max (1 - f s) (f2 s)) := by
      unfold z_im
      rw [a1]
      show (if q < nn ∧ bb q = 62 then (match z_ei bb nn g (q + 1) with | none => none | some (q2, f2) => some (q2, fun s => max (1 - f s) (f2 s))) else some (q, f)) = _
      rw [if_pos ⟨by rw [← a3]; exact p3, by rw [← a3]; exact p4⟩, p5, a3]
    rw [e1]
    rcases hE2.2 p2 (by omega) with ⟨b1, b2⟩ | ⟨q2, f2, b1, b2, b3, b4⟩
    · rw [b1]; exact Or.inl ⟨rfl, b2⟩
    · rw [b1]; exact Or.inr ⟨q2, _, rfl, b2, b3, z_bvOr (z_bvNot a4 he) b4 hw⟩
def z_TI (bb : Nat → Int) (nn : Nat) (g : Nat → zPR) (BB : Nat) (M0 M : zH) (y : Int64) (i : Int) : Prop := (¬ z_ok M0 → ¬ z_ok M) ∧ (z_ok M0 → z_atN M0 ≤ nn → (z_ti bb nn g (z_atN M0) = none ∧ ¬ z_ok M) ∨ (z_ok M ∧ z_atN M ≤ nn ∧ 2 * i ≤ (z_atN M : Int) ∧ ∃ u, z_ti bb nn g (z_atN M0) = z_tlw bb nn g (z_atN M) u ∧ z_bv y u BB))
theorem z_TI0 {g : Nat → zPR} : z_TI bb nn g BB M0 M0 (-1) 0 := ⟨fun a => a, fun h h2 => Or.inr ⟨h, h2, by omega, fun _ => 1, rfl, z_bvO BB⟩⟩
theorem z_TIs {g : Nat → zPR} {y e y2 w : Int64} {i i2 c : Int} (hg : z_pg nn g) (hI : z_TI bb nn g BB M0 M y i) (hM : z_PC nn M M1 (z_im bb nn g (z_atN M)) (fun f => z_bv e f BB)) (hP : z_PS bb nn M1 M2 61 c) (hc : c ≠ 0) (hy : y2 = y ^^^ e) (hw : w = y2 ^^^ (-1)) (hi : i2 = i + 1) : z_TI bb nn g BB M0 M2 w i2 := by
  obtain ⟨p1, p2, p3, p4, p5⟩ := z_PS1 hP hc
  refine ⟨fun a => absurd p1 (hM.1 (hI.1 a)), fun h h2 => ?_⟩
  rcases hI.2 h h2 with ⟨a1, a2⟩ | ⟨a1, a2, a3, u, a4, a5⟩
  · exact absurd p1 (hM.1 a2)
  · rcases hM.2 a1 a2 with ⟨b1, b2⟩ | ⟨q, f, b1, b2, b3, b4⟩
    · exact absurd p1 b2
    · have hq := z_im_pg hg _ _ _ b1
      rw [z_tlw_eq hg a2, b1] at a4
      have a4 : z_ti bb nn g (z_atN M0) = (if q < nn ∧ bb q = 61 then z_tlw bb nn g (q + 1) (fun s => if u s = f s then 1 else 0) else some (q, fun s => if u s = f s then 1 else 0)) := a4
      rw [if_pos ⟨by rw [← b3]; exact p3, by rw [← b3]; exact p4⟩] at a4
      refine Or.inr ⟨p2, by omega, by omega, fun s => if u s = f s then 1 else 0, ?_, z_bvEq a5 b4 hy hw⟩
      rw [a4, p5, b3]
theorem z_TIe {g : Nat → zPR} {y e y2 w : Int64} {i c : Int} (hg : z_pg nn g) (hI : z_TI bb nn g BB M0 M y i) (hM : z_PC nn M M1 (z_im bb nn g (z_atN M)) (fun f => z_bv e f BB)) (hP : z_PS bb nn M1 M2 61 c) (hc : c = 0) (hy : y2 = y ^^^ e) (hw : w = y2 ^^^ (-1)) : z_PC nn M0 M2 (z_ti bb nn g (z_atN M0)) (fun f => z_bv w f BB) := by
  obtain ⟨e1, n1⟩ := z_PS0 hP hc
  subst e1
  refine ⟨fun a => hM.1 (hI.1 a), fun h h2 => ?_⟩
  rcases hI.2 h h2 with ⟨a1, a2⟩ | ⟨a1, a2, a3, u, a4, a5⟩
  · exact Or.inl ⟨a1, hM.1 a2⟩
  · rcases hM.2 a1 a2 with ⟨b1, b2⟩ | ⟨q, f, b1, b2, b3, b4⟩
    · rw [z_tlw_eq hg a2, b1] at a4
      exact Or.inl ⟨a4, b2⟩
    · rw [z_tlw_eq hg a2, b1] at a4
      have a4 : z_ti bb nn g (z_atN M0) = (if q < nn ∧ bb q = 61 then z_tlw bb nn g (q + 1) (fun s => if u s = f s then 1 else 0) else some (q, fun s => if u s = f s then 1 else 0)) := a4
      rw [if_neg (fun a => n1 ⟨b2, by rw [b3]; exact a.1, by rw [b3]; exact a.2⟩)] at a4
      exact Or.inr ⟨q, _, a4, b2, b3, z_bvEq a5 b4 hy hw⟩
theorem z_TIx {g : Nat → zPR} {y : Int64} {i : Int} (hI : z_TI bb nn g BB M0 M y i) (hi : 160 ≤ i) (hn : nn ≤ 160) : z_PC nn M0 M (z_ti bb nn g (z_atN M0)) (fun f => z_bv y f BB) := by
  refine ⟨hI.1, fun h h2 => ?_⟩
  rcases hI.2 h h2 with ⟨a1, a2⟩ | ⟨a1, a2, a3, u, a4, a5⟩
  · exact Or.inl ⟨a1, a2⟩
  · exfalso; omega
/-- k { } -/
def z_ge (j : Nat) (u : Nat → Nat) : Nat → Nat := fun s => if j ≤ u s then 1 else 0
theorem z_ge0 (u : Nat → Nat) : z_ge 0 u = fun _ => 1 := funext fun s => if_pos (Nat.zero_le _)
theorem z_geN {j : Nat} (h : j ≠ 0) : z_ge j (fun _ => 0) = fun _ => 0 := funext fun s => if_neg (show ¬ j ≤ 0 by omega)
def z_rb (M : zH) (o l : Nat) (u : Nat → Nat) (k : Int) (f : Nat → Nat) (BB : Nat) : Prop := ∀ j : Nat, j ≤ l → z_bv (z_Lg M 9 (10 * o + j)) (z_ge j (if k < (j : Int) then (fun s => u s + f s) else u)) BB
def z_LI (bb : Nat → Int) (nn : Nat) (g : Nat → zPR) (BB : Nat) (M0 M : zH) (l o : Int32) (i : Int) : Prop := (¬ z_ok M0 → ¬ z_ok M) ∧ (z_ok M0 → z_atN M0 ≤ nn → (z_lea bb nn g (z_atN M0) l.toInt = none ∧ ¬ z_ok M) ∨ (z_ok M ∧ z_atN M ≤ nn ∧ 2 * i ≤ (z_atN M : Int) ∧ ∃ u, z_lea bb nn g (z_atN M0) l.toInt = z_fn bb nn l.toInt (z_liw bb nn g (z_atN M) u) ∧ z_rb M o.toInt.toNat l.toInt.toNat u 10 (fun _ => 0) BB))
def z_LJ (bb : Nat → Int) (nn : Nat) (g : Nat → zPR) (BB : Nat) (M0 M : zH) (l o : Int32) (i : Int) (y : Int64) (k : Int) : Prop := (¬ z_ok M0 → ¬ z_ok M) ∧ (z_ok M0 → z_atN M0 ≤ nn → (z_lea bb nn g (z_atN M0) l.toInt = none ∧ ¬ z_ok M) ∨ (z_ok M ∧ z_atN M ≤ nn ∧ 2 * i + 1 ≤ (z_atN M : Int) ∧ ∃ u f, z_lea bb nn g (z_atN M0) l.toInt = z_fn bb nn l.toInt (if z_atN M < nn ∧ bb (z_atN M) = 44 then z_liw bb nn g (z_atN M + 1) (fun s => u s + f s) else some (z_atN M, fun s => u s + f s)) ∧ z_bv y f BB ∧ z_rb M o.toInt.toNat l.toInt.toNat u k f BB))
theorem z_LI0 {g : Nat → zPR} {Ma Mb Mc : zH} {l o : Int32} {lo hi k : Nat} (e2 : z_F Mb 5 2 = z_F M0 5 2) (e3 : z_F Mb 5 3 = z_F M0 5 3) (hE : z_EX bb nn Mb Mc 123) (h9 : z_Lg Mc 9 = z_Lg Mb 9) (hfil : z_Lg Ma 9 = z_fil (z_Lg M0 9) lo hi 0) (hst : z_Lg Mb 9 = z_updL (z_Lg Ma 9) k (-1)) (hk : lo = 10 * o.toInt.toNat ∧ hi = 10 * o.toInt.toNat + 10 ∧ k = 10 * o.toInt.toNat) (hl : l.toInt ≤ 9) : z_LI bb nn g BB M0 Mc l o 0 := by
  obtain ⟨hk1, hk2, hk3⟩ := hk
  have hat : z_atN Mb = z_atN M0 := by unfold z_atN; rw [z_FvK e2]
  have hrb : z_rb Mc o.toInt.toNat l.toInt.toNat (fun _ => 0) 10 (fun _ => 0) BB := by
    intro j hj
    rw [h9, hst, hfil, hk1, hk2, hk3]
    show z_bv (if 10 * o.toInt.toNat + j = 10 * o.toInt.toNat then (-1) else (if 10 * o.toInt.toNat ≤ 10 * o.toInt.toNat + j ∧ 10 * o.toInt.toNat + j < 10 * o.toInt.toNat + 10 then 0 else z_Lg M0 9 (10 * o.toInt.toNat + j))) (z_ge j (if (10 : Int) < (j : Int) then (fun _ => 0 + 0) else (fun _ => 0))) BB
    have n10 : ¬ ((10 : Int) < (j : Int)) := by omega
    rw [if_neg n10]
    by_cases c : j = 0
    · subst c
      rw [if_pos (by omega), z_ge0]
      exact z_bvO BB
    · have c1 : ¬ (10 * o.toInt.toNat + j = 10 * o.toInt.toNat) := by omega
      have c2 : 10 * o.toInt.toNat ≤ 10 * o.toInt.toNat + j ∧ 10 * o.toInt.toNat + j < 10 * o.toInt.toNat + 10 := by omega
      rw [if_neg c1, if_pos c2, z_geN c]
      exact z_bvZ BB
  refine ⟨fun a => ?_, fun h h2 => ?_⟩
  · exact hE.elim (fun b => absurd ((z_okK e3).mp b.1) a) (fun b => b.1)
  · unfold z_lea
    rcases hE with ⟨b1, b2, b3, b4, b5⟩ | ⟨b1, b2⟩
    · rw [hat] at b3 b4 b5
      rw [if_pos ⟨b3, b4⟩]
      exact Or.inr ⟨b2, by omega, by omega, fun _ => 0, by rw [b5], hrb⟩
    · rw [hat] at b2
      rw [if_neg (fun a => b2 ⟨(z_okK e3).mpr h, a.1, a.2⟩)]
      exact Or.inl ⟨rfl, b1⟩
theorem z_LJ0 {g : Nat → zPR} {l o : Int32} {i k : Int} {y : Int64} (hg : z_pg nn g) (hI : z_LI bb nn g BB M0 M l o i) (hS : z_PC nn M M1 (z_ti bb nn g (z_atN M)) (fun f => z_bv y f BB)) (hf : z_fr9 (10 * (o.toInt.toNat + 1)) M M1) (hl : 0 ≤ l.toInt ∧ l.toInt ≤ 9 ∧ k = l.toInt) : z_LJ bb nn g BB M0 M1 l o i y k := by
  obtain ⟨l0, l9, hk⟩ := hl
  refine ⟨fun a => hS.1 (hI.1 a), fun h h2 => ?_⟩
  rcases hI.2 h h2 with ⟨a1, a2⟩ | ⟨a1, a2, a3, u, a4, a5⟩
  · exact Or.inl ⟨a1, hS.1 a2⟩
  · rcases hS.2 a1 a2 with ⟨b1, b2⟩ | ⟨q, f, b1, b2, b3, b4⟩
    · rw [z_liw_eq hg a2, b1] at a4
      exact Or.inl ⟨a4, b2⟩
    · have hq := z_ti_pg hg _ _ _ b1
      rw [z_liw_eq hg a2, b1] at a4
      refine Or.inr ⟨b2, by omega, by omega, u, f, ?_, b4, fun j hj => ?_⟩
      · rw [a4, b3]
      · have h5 := a5 j hj
        rw [hf _ (by omega)]
        have n1 : ¬ ((10 : Int) < (j : Int)) := by omega
        have n2 : ¬ (k < (j : Int)) := by omega
        rw [if_neg n1] at h5
        rw [if_neg n2]
        exact h5
theorem z_LJs {g : Nat → zPR} {l o : Int32} {i k k2 : Int} {y a b c e : Int64} {m m2 : Nat} (hJ : z_LJ bb nn g BB M0 M l o i y k) (e2 : z_F M1 5 2 = z_F M 5 2) (e3 : z_F M1 5 3 = z_F M 5 3) (ha : z_Lg M 9 m = a) (hb : z_Lg M 9 m2 = b) (hc : c = b &&& y) (he : e = a ||| c) (hst : z_Lg M1 9 = z_updL (z_Lg M 9) m e) (hm : m = 10 * o.toInt.toNat + k.toNat ∧ m2 + 1 = m) (hk : 1 ≤ k ∧ k2 = k - 1 ∧ k ≤ l.toInt) : z_LJ bb nn g BB M0 M1 l o i y k2 := by
  obtain ⟨hm1, hm2⟩ := hm
  obtain ⟨k1, hk2, k3⟩ := hk
  have hat : z_atN M1 = z_atN M := by unfold z_atN; rw [z_FvK e2]
  refine ⟨fun q => fun q2 => hJ.1 q ((z_okK e3).mp q2), fun h h2 => ?_⟩
  rcases hJ.2 h h2 with ⟨a1, a2⟩ | ⟨a1, a2, a3, u, f, a4, a5, a6⟩
  · exact Or.inl ⟨a1, fun q => a2 ((z_okK e3).mp q)⟩
  · refine Or.inr ⟨(z_okK e3).mpr a1, by rw [hat]; exact a2, by rw [hat]; exact a3, u, f, by rw [hat]; exact a4, a5, fun j hj => ?_⟩
    rw [hst]
    show z_bv (if 10 * o.toInt.toNat + j = m then e else z_Lg M 9 (10 * o.toInt.toNat + j)) _ BB
    by_cases cj : (j : Int) = k
    · have cm : 10 * o.toInt.toNat + j = m := by omega
      rw [if_pos cm]
      have hA := a6 j hj
      have hB := a6 (j - 1) (by omega)
      have n1 : ¬ (k < (j : Int)) := by omega
      have n2 : ¬ (k < ((j - 1 : Nat) : Int)) := by omega
      have n3 : k2 < (j : Int) := by omega
      have cm2 : 10 * o.toInt.toNat + (j - 1) = m2 := by omega
      rw [if_neg n1, cm, ha] at hA
      rw [if_neg n2, cm2, hb] at hB
      rw [if_pos n3]
      have hC := z_bvOr hA (z_bvAnd hB a5 hc) he
      have e9 : ∀ i2, i2 < 64 → (max (z_ge j u (64 * BB + i2)) (z_ge (j - 1) u (64 * BB + i2) * f (64 * BB + i2)) : Nat) = z_ge j (fun s => u s + f s) (64 * BB + i2) := fun i2 hi2 => by
        have h8 := (a5 i2 hi2).1
        show (max (if j ≤ u (64 * BB + i2) then 1 else 0) ((if j - 1 ≤ u (64 * BB + i2) then 1 else 0) * f (64 * BB + i2)) : Nat) = if j ≤ u (64 * BB + i2) + f (64 * BB + i2) then 1 else 0
        generalize u (64 * BB + i2) = ua
        generalize f (64 * BB + i2) = fa at h8 ⊢
        have cf : fa = 0 ∨ fa = 1 := by omega
        by_cases c1 : j ≤ ua
        · have c2 : j - 1 ≤ ua := by omega
          have c3 : j ≤ ua + fa := by omega
          rw [if_pos c1, if_pos c2, if_pos c3]
          omega
        · by_cases c2 : j - 1 ≤ ua
          · by_cases c3 : j ≤ ua + fa
            · rw [if_neg c1, if_pos c2, if_pos c3]
              omega
            · rw [if_neg c1, if_pos c2, if_neg c3]
              omega
          · have c3 : ¬ (j ≤ ua + fa) := by omega
            rw [if_neg c1, if_neg c2, if_neg c3]
            omega
      intro i2 hi2
      have h7 := hC i2 hi2
      have h7 : (max (z_ge j u (64 * BB + i2)) (z_ge (j - 1) u (64 * BB + i2) * f (64 * BB + i2)) : Nat) ≤ 1 ∧ e.toBitVec.getLsbD i2 = decide ((max (z_ge j u (64 * BB + i2)) (z_ge (j - 1) u (64 * BB + i2) * f (64 * BB + i2)) : Nat) = 1) := h7
      rw [e9 i2 hi2] at h7
      exact h7
    · have cm : ¬ (10 * o.toInt.toNat + j = m) := by omega
      rw [if_neg cm]
      have hA := a6 j hj
      by_cases c : k < (j : Int)
      · have c2 : k2 < (j : Int) := by omega
        rw [if_pos c] at hA
        rw [if_pos c2]
        exact hA
      · have c2 : ¬ (k2 < (j : Int)) := by omega
        rw [if_neg c] at hA
        rw [if_neg c2]
        exact hA
theorem z_rb0 {o l : Nat} {u f : Nat → Nat} {k : Int} (h : z_rb M o l u k f BB) (hk : k = 0) (hl : l ≤ 9) {M' : zH} (h9 : ∀ j, j < 10 * o + 10 → z_Lg M' 9 j = z_Lg M 9 j) : z_rb M' o l (fun s => u s + f s) 10 (fun _ => 0) BB := fun j hj => by
  have hA := h j hj
  rw [h9 _ (by omega)]
  have n1 : ¬ ((10 : Int) < (j : Int)) := by omega
  rw [if_neg n1]
  by_cases c : k < (j : Int)
  · rw [if_pos c] at hA
    exact hA
  · have j0 : j = 0 := by omega
    subst j0
    rw [z_ge0] at hA ⊢
    exact hA
theorem z_LIs {g : Nat → zPR} {l o : Int32} {i i2 k c : Int} {y : Int64} (hJ : z_LJ bb nn g BB M0 M l o i y k) (hk : k ≤ 0 ∧ 0 ≤ k) (hP : z_PS bb nn M M1 44 c) (hc : c ≠ 0) (h9 : z_Lg M1 9 = z_Lg M 9) (hl : 0 ≤ l.toInt ∧ l.toInt ≤ 9) (hi : i2 = i + 1) : z_LI bb nn g BB M0 M1 l o i2 := by
  obtain ⟨p1, p2, p3, p4, p5⟩ := z_PS1 hP hc
  refine ⟨fun a => absurd p1 (hJ.1 a), fun h h2 => ?_⟩
  rcases hJ.2 h h2 with ⟨a1, a2⟩ | ⟨a1, a2, a3, u, f, a4, a5, a6⟩
  · exact absurd p1 a2
  · rw [if_pos ⟨p3, p4⟩, ← p5] at a4
    exact Or.inr ⟨p2, by omega, by omega, fun s => u s + f s, a4, z_rb0 a6 (by omega) (by omega) (fun j _ => by rw [h9])⟩
theorem z_LIe {g : Nat → zPR} {l o : Int32} {i k c : Int} {y r : Int64} {m : Nat} (hJ : z_LJ bb nn g BB M0 M l o i y k) (hk : k ≤ 0 ∧ 0 ≤ k) (hP : z_PS bb nn M M1 44 c) (hc : c = 0) (hE : z_EX bb nn M1 M2 125) (h9 : z_Lg M2 9 = z_Lg M1 9) (hl : 0 ≤ l.toInt ∧ l.toInt ≤ 9) (hr : z_Lg M2 9 m = r) (hm : m = 10 * o.toInt.toNat + l.toInt.toNat) : z_PC nn M0 M2 (z_lea bb nn g (z_atN M0) l.toInt) (fun f => z_bv r f BB) := by
  obtain ⟨e1, n1⟩ := z_PS0 hP hc
  subst e1
  refine ⟨fun a => hE.elim (fun b => absurd b.1 (hJ.1 a)) (fun b => b.1), fun h h2 => ?_⟩
  rcases hJ.2 h h2 with ⟨a1, a2⟩ | ⟨a1, a2, a3, u, f, a4, a5, a6⟩
  · exact Or.inl ⟨a1, hE.elim (fun b => absurd b.1 a2) (fun b => b.1)⟩
  · rw [if_neg (fun a => n1 ⟨a1, a.1, a.2⟩)] at a4
    have hR := z_rb0 a6 (by omega) (by omega) (M' := M2) (fun j _ => by rw [h9])
    have hB := hR l.toInt.toNat (Nat.le_refl _)
    have n2 : ¬ ((10 : Int) < ((l.toInt.toNat : Nat) : Int)) := by omega
    rw [if_neg n2, ← hm, hr] at hB
    have a4 : z_lea bb nn g (z_atN M0) l.toInt = (if z_atN M1 < nn ∧ bb (z_atN M1) = 125 then some (z_atN M1 + 1, fun s => if l.toInt ≤ ((u s + f s : Nat) : Int) then 1 else 0) else none) := a4
    rcases hE with ⟨_, b2, b3, b4, b5⟩ | ⟨b1, b2⟩
    · rw [if_pos ⟨b3, b4⟩] at a4
      refine Or.inr ⟨_, _, a4, b2, b5, fun i2 hi2 => ?_⟩
      have h7 := hB i2 hi2
      have e9 : (l.toInt.toNat ≤ u (64 * BB + i2) + f (64 * BB + i2)) ↔ (l.toInt ≤ ((u (64 * BB + i2) + f (64 * BB + i2) : Nat) : Int)) := by omega
      show (if l.toInt ≤ ((u (64 * BB + i2) + f (64 * BB + i2) : Nat) : Int) then 1 else 0 : Nat) ≤ 1 ∧ r.toBitVec.getLsbD i2 = decide ((if l.toInt ≤ ((u (64 * BB + i2) + f (64 * BB + i2) : Nat) : Int) then 1 else 0 : Nat) = 1)
      have h7 : (if l.toInt.toNat ≤ u (64 * BB + i2) + f (64 * BB + i2) then 1 else 0 : Nat) ≤ 1 ∧ r.toBitVec.getLsbD i2 = decide ((if l.toInt.toNat ≤ u (64 * BB + i2) + f (64 * BB + i2) then 1 else 0 : Nat) = 1) := h7
      by_cases c9 : l.toInt.toNat ≤ u (64 * BB + i2) + f (64 * BB + i2)
      · rw [if_pos c9] at h7
        rw [if_pos (e9.mp c9)]
        exact h7
      · rw [if_neg c9] at h7
        rw [if_neg (fun q => c9 (e9.mpr q))]
        exact h7
    · rw [if_neg (fun a => b2 ⟨a1, a.1, a.2⟩)] at a4
      exact Or.inl ⟨a4, b1⟩
theorem z_LIx {g : Nat → zPR} {l o : Int32} {i : Int} {W : (Nat → Nat) → Prop} (hI : z_LI bb nn g BB M0 M l o i) (hi : 160 ≤ i) (hn : nn ≤ 160) (hE : z_EX bb nn M M1 125) : z_PC nn M0 M1 (z_lea bb nn g (z_atN M0) l.toInt) W := by
  refine ⟨fun a => hE.elim (fun b => absurd b.1 (hI.1 a)) (fun b => b.1), fun h h2 => ?_⟩
  rcases hI.2 h h2 with ⟨a1, a2⟩ | ⟨a1, a2, a3, u, a4, a5⟩
  · exact Or.inl ⟨a1, hE.elim (fun b => absurd b.1 a2) (fun b => b.1)⟩
  · exfalso; omega
end ZT2
