/-! the class reads the whole tape: its parts, one behind the other -/
section ZT5
variable {bb : Nat → Int} {nn : Nat} {nu : Int → Int} {BB : Nat} {M M0 M1 M2 M3 M4 M5 M6 M7 : zH} {pr en t : Nat} {ts : Nat → Nat}
theorem z_APbad {c : Int} (hP : z_PS bb nn M0 M1 59 c) (hc : c = 0) (hF : ¬ z_ok M2) : z_AP bb nn nu M0 M2 pr en t ts := by
  obtain ⟨e1, n1⟩ := z_PS0 hP hc
  exact ⟨fun _ => hF, fun h h2 => Or.inl ⟨z_ptw_bad h2 (fun a => n1 ⟨h, h2, a⟩), hF⟩⟩
/-- what was, kept -/
def z_kpt (M M1 : zH) : Prop := z_F M1 5 5 = z_F M 5 5 ∧ z_F M1 5 6 = z_F M 5 6 ∧ z_F M1 5 7 = z_F M 5 7 ∧ z_Ar M1 8 = z_Ar M 8
theorem z_sg.kp (h : z_sg M pr en t ts) (k : z_kpt M M1) : z_sg M1 pr en t ts := by
  obtain ⟨k1, k2, k3, k4⟩ := k
  unfold z_sg
  rw [z_FvK k1, z_FvK k2, z_FvK k3, k4]
  exact h
theorem z_sgP {x : Int32} (h : z_sg M pr en t ts) (hx : z_F M 5 5 = some (.int x)) : x.toInt = (pr : Int) := by
  have e := h.1
  rw [z_Fv.of hx] at e
  exact e
theorem z_sgE {x : Int32} (h : z_sg M pr en t ts) (hx : z_F M 5 6 = some (.int x)) : x.toInt = (en : Int) := by
  have e := h.2.1
  rw [z_Fv.of hx] at e
  exact e
theorem z_sgT {x : Int32} (h : z_sg M pr en t ts) (hx : z_F M 5 7 = some (.int x)) : x.toInt = (t : Int) := by
  have e := h.2.2.1
  rw [z_Fv.of hx] at e
  exact e
/-- not p: premises stand, or another byte -/
def z_no (bb : Nat → Int) (nn : Nat) (M : zH) (c : Int) (b : Prop) : Prop := z_ok M → ¬ (z_atN M < nn ∧ bb (z_atN M) = c ∧ b)
theorem z_noA {c : Int} {b : Prop} (h : ¬ b) : z_no bb nn M c b := fun _ a => h a.2.2
theorem z_noB {c x : Int} {b : Prop} (hP : z_PS bb nn M M1 c x) (hx : x = 0) : z_no bb nn M c b := fun k a => (z_PS0 hP hx).2 ⟨k, a.1, a.2.1⟩
theorem z_APp {c c2 : Int} {x : Int32} (hS : z_sg M1 pr en t ts) (hP : z_PS bb nn M0 M1 59 c) (hc : c ≠ 0) (hp : pr = 0) (hP2 : z_PS bb nn M1 M2 112 c2) (hc2 : c2 ≠ 0) (hQ : z_SQ bb nn nu M2 M3 x.toInt) (kp : z_kpt M1 M3) (hn : z_F M4 5 5 = some (.int x)) (e6 : z_F M4 5 6 = z_F M3 5 6) (e7 : z_F M4 5 7 = z_F M3 5 7) (e8 : z_Ar M4 8 = z_Ar M3 8) (e3 : z_F M4 5 3 = z_F M3 5 3) (e2 : z_F M4 5 2 = z_F M3 5 2) : z_AP bb nn nu M0 M4 pr en t ts := by
  obtain ⟨p1, p2, p3, p4, p5⟩ := z_PS1 hP hc
  obtain ⟨q1, q2, q3, q4, q5⟩ := z_PS1 hP2 hc2
  rw [p5] at q3 q4 q5
  refine ⟨fun a => absurd p1 a, fun _ _ => ?_⟩
  rw [z_ptw_pr p3 p4 ⟨q3, q4, hp⟩]
  have ea : z_atN M4 = z_atN M3 := by unfold z_atN; rw [z_FvK e2]
  rcases hQ.2 q2 (by omega) with ⟨a1, a2⟩ | ⟨q, m, a1, a2, a3, a4, a5⟩
  · rw [q5] at a1
    rw [a1]
    exact Or.inl ⟨rfl, fun b => a2 ((z_okK e3).mp b)⟩
  · have hq := z_qs_pg a1
    rw [q5] at a1 hq
    rw [a1]
    obtain ⟨s1, s2, s3, s4, s5, s6⟩ := hS.kp kp
    refine Or.inr ⟨m, en, t, ts, (z_okK e3).mpr a2, by omega, by omega, ⟨?_, ?_, ?_, a5, s5, ?_⟩, ?_⟩
    · rw [z_Fv.of hn]; exact a4
    · rw [z_FvK e6]; exact s2
    · rw [z_FvK e7]; exact s3
    · rw [e8]; exact s6
    · rw [ea, a3]
theorem z_APe {c c2 : Int} {x : Int32} (hS : z_sg M1 pr en t ts) (hP : z_PS bb nn M0 M1 59 c) (hc : c ≠ 0) (hE : M2 = M1) (hp : en = 0) (hP2 : z_PS bb nn M2 M3 101 c2) (hc2 : c2 ≠ 0) (hQ : z_SQ bb nn nu M3 M4 x.toInt) (kp : z_kpt M1 M4) (hn : z_F M5 5 6 = some (.int x)) (e5 : z_F M5 5 5 = z_F M4 5 5) (e7 : z_F M5 5 7 = z_F M4 5 7) (e8 : z_Ar M5 8 = z_Ar M4 8) (e3 : z_F M5 5 3 = z_F M4 5 3) (e2 : z_F M5 5 2 = z_F M4 5 2) : z_AP bb nn nu M0 M5 pr en t ts := by
  subst hE
  obtain ⟨p1, p2, p3, p4, p5⟩ := z_PS1 hP hc
  obtain ⟨q1, q2, q3, q4, q5⟩ := z_PS1 hP2 hc2
  rw [p5] at q3 q4 q5
  refine ⟨fun a => absurd p1 a, fun _ _ => ?_⟩
  rw [z_ptw_en p3 p4 ⟨q3, q4, hp⟩]
  have ea : z_atN M5 = z_atN M4 := by unfold z_atN; rw [z_FvK e2]
  rcases hQ.2 q2 (by omega) with ⟨a1, a2⟩ | ⟨q, m, a1, a2, a3, a4, a5⟩
  · rw [q5] at a1
    rw [a1]
    exact Or.inl ⟨rfl, fun b => a2 ((z_okK e3).mp b)⟩
  · have hq := z_qs_pg a1
    rw [q5] at a1 hq
    rw [a1]
    obtain ⟨s1, s2, s3, s4, s5, s6⟩ := hS.kp kp
    refine Or.inr ⟨pr, m, t, ts, (z_okK e3).mpr a2, by omega, by omega, ⟨?_, ?_, ?_, s4, a5, ?_⟩, ?_⟩
    · rw [z_FvK e5]; exact s1
    · rw [z_Fv.of hn]; exact a4
    · rw [z_FvK e7]; exact s3
    · rw [e8]; exact s6
    · rw [ea, a3]
theorem z_APt {c c2 : Int} {a x x2 : Int32} {W : (Nat → Nat) → Prop} (hS : z_sg M1 pr en t ts) (hP : z_PS bb nn M0 M1 59 c) (hc : c ≠ 0) (hE : M2 = M1) (hp : t < 8) (hP2 : z_PS bb nn M2 M3 116 c2) (hc2 : c2 ≠ 0) (hX : z_EX bb nn M3 M4 32) (kp : z_kpt M1 M4) (ha : z_F M4 5 2 = some (.int a)) (h0 : 0 ≤ a.toInt) (hx : z_F M4 5 7 = some (.int x)) (hs : z_Ar M5 8 = upd (z_Ar M4 8) x.toNatClampNeg a) (hn : z_F M5 5 7 = some (.int x2)) (hx2 : x2.toInt = x.toInt + 1) (e5 : z_F M5 5 5 = z_F M4 5 5) (e6 : z_F M5 5 6 = z_F M4 5 6) (e3 : z_F M5 5 3 = z_F M4 5 3) (e2 : z_F M5 5 2 = z_F M4 5 2) (hC : z_PC nn M5 M6 (z_ti bb nn (z_one bb nn nu 6) (z_atN M5)) W) (kp2 : z_kpt M5 M6) : z_AP bb nn nu M0 M6 pr en t ts := by
  subst hE
  obtain ⟨p1, p2, p3, p4, p5⟩ := z_PS1 hP hc
  obtain ⟨q1, q2, q3, q4, q5⟩ := z_PS1 hP2 hc2
  rw [p5] at q3 q4 q5
  refine ⟨fun a => absurd p1 a, fun _ _ => ?_⟩
  rw [z_ptw_ti p3 p4 ⟨q3, q4, hp⟩]
  have ea : z_atN M5 = z_atN M4 := by unfold z_atN; rw [z_FvK e2]
  rcases hX with ⟨b1, b2, b3, b4, b5⟩ | ⟨b1, b2⟩
  · rw [q5] at b3 b4 b5
    rw [if_pos ⟨b3, b4⟩]
    have ea4 : z_atN M5 = z_atN M0 + 3 := by omega
    rcases hC.2 ((z_okK e3).mpr b2) (by omega) with ⟨a1, a2⟩ | ⟨q, f, a1, a2, a3, a4⟩
    · rw [ea4] at a1
      rw [a1]
      exact Or.inl ⟨rfl, a2⟩
    · have hq := z_ti_pg (z_one_pg _) _ _ _ a1
      rw [ea4] at a1 hq
      rw [a1]
      obtain ⟨s1, s2, s3, s4, s5, s6⟩ := hS.kp kp
      have hs5 : z_sg M5 pr en (t + 1) (fun i => if i = t then z_atN M0 + 3 else ts i) := by
        refine ⟨by rw [z_FvK e5]; exact s1, by rw [z_FvK e6]; exact s2, ?_, s4, s5, fun i hi => ?_⟩
        · rw [z_Fv.of hn]
          rw [z_Fv.of hx] at s3
          omega
        · rw [hs]
          rw [z_Fv.of hx] at s3
          show (if i = x.toInt.toNat then a else z_Ar M4 8 i).toInt = ((if i = t then z_atN M0 + 3 else ts i : Nat) : Int)
          by_cases c5 : i = t
          · have c6 : i = x.toInt.toNat := by omega
            rw [if_pos c6, if_pos c5]
            have h4 : z_atN M4 = a.toInt.toNat := z_atF ha
            omega
          · have c6 : ¬ (i = x.toInt.toNat) := by omega
            rw [if_neg c6, if_neg c5]
            exact s6 i (by omega)
      refine Or.inr ⟨pr, en, t + 1, _, a2, by omega, by omega, hs5.kp kp2, ?_⟩
      rw [a3]
  · rw [q5] at b2
    rw [if_neg (fun a => b2 ⟨q2, a.1, a.2⟩)]
    exact Or.inl ⟨rfl, hC.1 (fun b => b1 ((z_okK e3).mp b))⟩
theorem z_APn {c : Int} (hP : z_PS bb nn M0 M1 59 c) (hc : c ≠ 0) (n1 : z_no bb nn M1 112 (pr = 0)) (hE2 : M3 = M1) (n2 : z_no bb nn M3 101 (en = 0)) (hE3 : M4 = M1) (n3 : z_no bb nn M4 116 (t < 8)) (hF : ¬ z_ok M2) : z_AP bb nn nu M0 M2 pr en t ts := by
  subst hE2 hE3
  obtain ⟨p1, p2, p3, p4, p5⟩ := z_PS1 hP hc
  have m1 := n1 p2
  have m2 := n2 p2
  have m3 := n3 p2
  rw [p5] at m1 m2 m3
  exact ⟨fun _ => hF, fun _ _ => Or.inl ⟨z_ptw_none p3 p4 m1 m2 m3, hF⟩⟩
theorem z_fl7 {f f2 : Nat → Int32} {v : Int32} {i i2 : Int} {j : Nat} (h : ∀ k : Nat, (k : Int) < i → f k = v) (hs : f2 = upd f j v) (hj : j = i.toNat) (hi : i2 = i + 1 ∧ 0 ≤ i) : ∀ k : Nat, (k : Int) < i2 → f2 k = v := fun k hk => by
  rw [hs]
  show (if k = j then v else f k) = v
  by_cases c : k = j
  · rw [if_pos c]
  · rw [if_neg c]
    exact h k (by omega)
/-- the tape before it is read -/
def z_TB (M : zH) (bb : Nat → Int) (nn : Nat) : Prop := (∀ k, (z_Ar M 6 k).toInt = bb k) ∧ (z_Fv M 5 1).toInt = (nn : Int) ∧ (nn ≤ 160 ∧ ∀ k, k < nn → 0 ≤ bb k ∧ bb k ≤ 255) ∧ ∀ q, q < 6 → z_Lg M 2 q = z_ty2.getD q 0
theorem z_TB.tp {z : Int32} (h : z_TB M bb nn) (e6 : z_Ar M1 6 = z_Ar M 6) (e1 : z_F M1 5 1 = z_F M 5 1) (e2 : z_Lg M1 2 = z_Lg M 2) (h7 : ∀ k : Nat, k < 10 → z_Ar M1 7 k = (-1)) (hb : z_F M1 5 10 = some (.int z)) (hz : z.toInt = 0) : z_TP M1 bb nn z_n0 0 := by
  obtain ⟨h1, h2, h3, h4⟩ := h
  refine ⟨fun k => by rw [e6]; exact h1 k, by rw [z_FvK e1]; exact h2, h3, fun k hk => by rw [h7 k hk]; rfl, fun c _ => (by decide : (-1 : Int) < 0), by rw [z_Fv.of hb]; exact hz, fun q hq => by rw [e2]; exact h4 q hq⟩
def z_whk (bb : Nat → Int) (nn : Nat) (nu : Int → Int) (k : Nat) (r : zWR) : Option (Nat × (Int → Int) × Nat × Nat × Nat × (Nat → Nat)) := match r with
  | none => none
  | some (pr, en, t, ts) => some (k, nu, pr, en, t, ts)
/-- at the loop over the parts: M0 stands before q and a space are asked for -/
def z_FI (bb : Nat → Int) (nn : Nat) (M : zH) (i : Int) (nu : Int → Int) (pr en t : Nat) (ts : Nat → Nat) (k : Nat) : Prop := z_TP M bb nn nu 0 ∧ (¬ z_ok M → z_wh bb nn = none) ∧ (z_ok M → z_atN M ≤ nn ∧ i ≤ (z_atN M : Int) ∧ z_sg M pr en t ts ∧ (z_Fv M 5 4).toInt = (k : Int) ∧ k ≠ 0 ∧ z_wh bb nn = z_whk bb nn nu k (z_ptw bb nn nu (z_atN M) pr en t ts))
theorem z_FI0 {a f p e x : Int32} (ha : z_F M0 5 2 = some (.int a)) (ha0 : a.toInt = 0) (hf : z_F M0 5 3 = some (.int f)) (hf0 : f.toInt < 0) (hE : z_EX bb nn M0 M1 113) (hE2 : z_EX bb nn M1 M2 32) (hN : z_NQR bb nn 0 M2 M3) (hp : z_F M3 5 5 = some (.int p)) (hp0 : p.toInt = 0) (he : z_F M3 5 6 = some (.int e)) (he0 : e.toInt = 0) (hx : z_F M3 5 7 = some (.int x)) (hx0 : x.toInt = 0) : ∃ nu pr en t ts k, z_FI bb nn M3 0 nu pr en t ts k := by
  obtain ⟨nu, hT, h1, h2⟩ := hN
  have k0 := z_okY hf hf0
  have at0 : z_atN M0 = 0 := by rw [z_atF ha]; omega
  by_cases c : z_ok M3
  · have k2 := z_okB h1 c
    rcases hE2 with ⟨b1, b2, b3, b4, b5⟩ | ⟨b1, b2⟩
    · rcases hE with ⟨d1, d2, d3, d4, d5⟩ | ⟨d1, d2⟩
      · rw [at0] at d3 d4 d5
        rw [d5] at b3 b4 b5
        rcases h2 b2 (by omega) with ⟨f1, f2⟩ | ⟨f1, f2, k, f3, f4, f5⟩
        · exact absurd c f2
        · refine ⟨nu, 0, 0, 0, fun _ => 0, k, hT, fun q => absurd c q, fun _ => ⟨f2, by omega, ⟨?_, ?_, ?_, by decide, by decide, fun i hi => absurd hi (Nat.not_lt_zero i)⟩, f4, f3, ?_⟩⟩
          · rw [z_Fv.of hp]; exact hp0
          · rw [z_Fv.of he]; exact he0
          · rw [z_Fv.of hx]; exact hx0
          · rw [b5] at f5
            have f5 : z_nqw bb nn 2 0 (fun _ => -1) = (z_atN M3, k, nu) := f5
            unfold z_wh
            rw [if_pos ⟨b3, d4, b4⟩, f5]
            show (if k = 0 then none else _) = _
            rw [if_neg f3]
            rfl
      · exact absurd b1 d1
    · exact absurd k2 b1
  · refine ⟨nu, 0, 0, 0, fun _ => 0, 0, hT, fun _ => ?_, fun q => absurd q c⟩
    unfold z_wh
    by_cases cw : 1 < nn ∧ bb 0 = 113 ∧ bb 1 = 32
    · rcases hE with ⟨d1, d2, d3, d4, d5⟩ | ⟨d1, d2⟩
      · rw [at0] at d5
        rcases hE2 with ⟨b1, b2, b3, b4, b5⟩ | ⟨b1, b2⟩
        · rw [d5] at b5
          rcases h2 b2 (by omega) with ⟨f1, f2⟩ | ⟨f1, _⟩
          · rw [b5] at f1
            rw [if_pos cw]
            have f1 : (z_nqw bb nn 2 0 (fun _ => -1)).2.1 = 0 := f1
            show (if (z_nqw bb nn 2 0 (fun _ => -1)).2.1 = 0 then none else _) = none
            rw [if_pos f1]
          · exact absurd f1 c
        · rw [d5] at b2
          exact absurd ⟨d2, cw.1, cw.2.2⟩ b2
      · rw [at0] at d2
        exact absurd ⟨k0, by omega, cw.2.1⟩ d2
    · rw [if_neg cw]
theorem z_FIst {i : Int} {k : Nat} {f : Int32} (h : z_FI bb nn M i nu pr en t ts k) (hf : z_F M 5 3 = some (.int f)) (h0 : f.toInt < 0) : z_sg M pr en t ts := (h.2.2 (z_okY hf h0)).2.2.1
theorem z_FIs {i i2 : Int} {k : Nat} {f a ln : Int32} (h : z_FI bb nn M i nu pr en t ts k) (hf : z_F M 5 3 = some (.int f)) (h0 : f.toInt < 0) (ha : z_F M 5 2 = some (.int a)) (hl : z_F M 5 1 = some (.int ln)) (hal : a.toInt < ln.toInt ∧ 0 ≤ a.toInt) (hA : z_AP bb nn nu M M1 pr en t ts) {T : List zK} {rs : List Nat} {M' : zH} (hW : z_W M' T) (hX : z_X T rs M M1) (hr : z_dj [2, 6, 7, 1101, 1110] rs = true) (e4 : z_F M1 5 4 = z_F M 5 4) (hi : i2 = i + 1) : ∃ nu pr en t ts k, z_FI bb nn M1 i2 nu pr en t ts k := by
  obtain ⟨hT, h1, h2⟩ := h
  have k0 := z_okY hf h0
  obtain ⟨g1, g2, g3, g4, g5, g6⟩ := h2 k0
  have hlt : z_atN M < nn := by
    have e := hT.len hl
    rw [z_atF ha]
    omega
  rcases hA.2 k0 hlt with ⟨a1, a2⟩ | ⟨pr2, en2, t2, ts2, a1, a2, a3, a4, a5⟩
  · refine ⟨nu, pr, en, t, ts, k, hT.go hW hX hr, fun _ => ?_, fun q => absurd q a2⟩
    rw [g6, a1]
    rfl
  · refine ⟨nu, pr2, en2, t2, ts2, k, hT.go hW hX hr, fun q => absurd a1 q, fun _ => ⟨a3, by omega, a4, by rw [z_FvK e4]; exact g4, g5, ?_⟩⟩
    rw [g6, a5]
/-- what findFault says -/
def z_FF (bb : Nat → Int) (nn : Nat) (M1 : zH) (x : Int) : Prop := (0 ≤ x → z_wh bb nn = none) ∧ (x < 0 → ∃ (k : Nat) (nu : Int → Int) (pr en t : Nat) (ts : Nat → Nat), z_TP M1 bb nn nu 0 ∧ z_sg M1 pr en t ts ∧ (z_Fv M1 5 4).toInt = (k : Int) ∧ k ≠ 0 ∧ z_ok M1 ∧ z_wh bb nn = some (k, nu, pr, en, t, ts))
theorem z_FFe {i : Int} {k : Nat} {f a ln : Int32} (h : z_FI bb nn M i nu pr en t ts k) (hf : z_F M 5 3 = some (.int f)) (he : 0 ≤ f.toInt ∨ 160 ≤ i ∨ (z_F M 5 2 = some (.int a) ∧ z_F M 5 1 = some (.int ln) ∧ ln.toInt ≤ a.toInt)) : z_FF bb nn M f.toInt := by
  obtain ⟨hT, h1, h2⟩ := h
  refine ⟨fun q => h1 (z_okN hf q), fun q => ?_⟩
  obtain ⟨g1, g2, g3, g4, g5, g6⟩ := h2 (z_okY hf q)
  have hn : nn ≤ z_atN M := by
    have hh := hT.2.2.1.1
    rcases he with he | he | ⟨e1, e2, e3⟩
    · omega
    · omega
    · have e := hT.len e2
      rw [z_atF e1]
      omega
  rw [z_ptw_end g1 hn] at g6
  exact ⟨k, nu, pr, en, t, ts, hT, g3, g4, g5, z_okY hf q, g6⟩
end ZT5
