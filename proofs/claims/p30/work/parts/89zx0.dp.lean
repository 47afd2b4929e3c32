/-! what is asked of a way and a told bench, on both sides -/
def z_LW (ww yy nn : Nat → Int32) (J k : Nat) : Int := (z_vs yy ww (Int32.ofNat k) J).toInt - (z_vs nn ww (Int32.ofNat k) J).toInt
def z_tob (T : List zK) (M : zH) (a b N q t m pr en J : Nat) (B : Nat → Nat) (jv : Int32) (ww yy nn : Nat → Int32) : Prop := z_AB T M a b N q t m pr en B ∧ jv.toInt = (J : Int) ∧ J ≤ 9 ∧ z_F M b 4 = some (.int jv) ∧ z_CB M b J ww yy nn ∧ y_CB M a J ww yy nn ∧ (∀ j, j < J → z_jok q (ww j) (yy j) (nn j)) ∧ ∀ k : Nat, k < q → (z_Ar M (b + 4) k).toInt = z_LW ww yy nn J k
theorem z_jokJ {q J : Nat} {ww yy nn : Nat → Int32} (q10 : q ≤ 10) (h : ∀ j, j < J → z_jok q (ww j) (yy j) (nn j)) : z_okJ ww yy nn J := fun j hj => by
  obtain ⟨g, w1, w9⟩ := h j hj
  have hl := z_ans.lt g q10
  exact ⟨⟨by omega, w9⟩, ⟨hl.1.1, hl.1.2.1⟩, ⟨hl.2.1, hl.2.2.1⟩, g.2.2⟩
theorem z_DPof {T : List zK} {M : zH} {A p : Int32} {b q t m w c : Nat} (hW : z_W M T) (hR : z_RR T M) (h9 : z_R89 T M) (hA : z_F M 4 3 = some (.int A)) (hp : 0 ≤ p.toInt ∧ p.toInt < A.toInt) (ob : z_O M 10 p.toNatClampNeg = some b) (kb : T[b]? = some (.inl (3, q, t, m, 9))) (hc : 4 ≤ c ∧ c ≤ 11) (kw : T[w]? = some (.inl (c, 0, 0, 0, 0))) : ∃ (N pr en J : Nat) (B : Nat → Nat) (sh jv ch : Int32) (ww yy nn : Nat → Int32), z_DP T M w b N q t m 9 pr en B sh jv ch ∧ z_tob T M p.toNatClampNeg b N q t m pr en J B jv ww yy nn := by
  have hpa := z_pc hp
  have hbk := hR.2.2.1
  obtain ⟨b1, N, q1, t1, m1, pr, en, B, hAB⟩ := hR.2.1 A hA p.toNatClampNeg hpa
  obtain rfl : b = b1 := Option.some.inj (ob.symm.trans hAB.1)
  have e1 := hAB.2.1
  rw [kb] at e1
  cases e1
  obtain ⟨b2, q2, t2, m2, g1, g2, J, ww, yy, nn, J9, cb, yb, jok⟩ := (hR.2.2.2 A hA).1 p.toNatClampNeg hpa
  obtain rfl : b = b2 := Option.some.inj (ob.symm.trans g1)
  rw [kb] at g2
  cases g2
  obtain ⟨sh, f1, _, _⟩ := z_W.fi hW kw (k := 1) (lo := 0) (hi := 9) (z_nf8 hc (by decide)) (z_fs8 hc)
  obtain ⟨ch, f2, _, _⟩ := z_W.fi hW kw (k := 2) (lo := 0) (hi := 8) (z_nf8 hc (by decide)) (z_fs8 hc)
  obtain ⟨⟨jv, fj, ej⟩, cj⟩ := id cb
  have q10 : q ≤ 10 := by have := hW.p3 kb; omega
  have ok := z_jokJ q10 jok
  obtain ⟨jv2, fj2, j9, hL⟩ := (h9 b q t m kb).1
  have ejv := z_ivL fj fj2
  rw [← ejv] at j9 hL
  have eJ : jv.toInt.toNat = J := by omega
  rw [eJ] at hL
  have hLW : ∀ k : Nat, k < q → (z_Ar M (b + 4) k).toInt = z_LW ww yy nn J k ∧ -81 ≤ (z_Ar M (b + 4) k).toInt ∧ (z_Ar M (b + 4) k).toInt ≤ 81 := fun k hk => by
    have e := z_ofN k (by omega)
    have h1 := hL (Int32.ofNat k) (by omega) (by omega)
    have h2 : (Int32.ofNat k).toNatClampNeg = k := by
      show (Int32.ofNat k).toInt.toNat = k
      omega
    rw [h2] at h1
    have h3 : z_lj (z_Ar M (b + 1)) (z_Ar M (b + 2)) (z_Ar M (b + 3)) (Int32.ofNat k) J = z_lj ww yy nn (Int32.ofNat k) J := z_ljC fun j hj => cj j hj
    have h4 := z_ljI (k := Int32.ofNat k) (by omega) J J9 ok
    have h5 := z_ljV (k := Int32.ofNat k) (by omega) J9 ok
    rw [h3] at h1
    rw [h1]
    exact ⟨h5, by omega, by omega⟩
  have hans : ∀ j, j < jv.toInt.toNat → z_ans q (z_Ar M (b + 2) j) (z_Ar M (b + 3) j) := fun j hj => by
    obtain ⟨u1, u2, u3⟩ := cj j (by omega)
    rw [u2, u3]
    exact (jok j (by omega)).1
  have hY := hAB.2.2.2.2
  exact ⟨N, pr, en, J, B, sh, jv, ch, ww, yy, nn, ⟨⟨hW, hbk⟩, kb, hAB.2.2.1, hAB.2.2.2.1, ⟨hY.2.2.1.2, hY.2.2.2.1.2⟩, (h9 b q t m kb).2, fun k hk => (hLW k hk).2, ⟨fj, j9, hans⟩, f1, f2⟩, hAB, ej, J9, fj, cb, yb, jok, fun k hk => (hLW k hk).1⟩
/-! what an outcome's words are -/
theorem z_bitlt {a q : Nat} (ha : a < 1024) (hk : ∀ k, k < 10 → a / 2 ^ k % 2 = 1 → k < q) : a < 2 ^ q := by
  refine Nat.lt_pow_two_of_testBit _ fun i hi => ?_
  rw [Nat.testBit_eq_decide_div_mod_eq]
  refine decide_eq_false fun c => ?_
  by_cases d : i < 10
  · have := hk i d c
    omega
  · have h3 : 2 ^ 10 ≤ 2 ^ i := Nat.pow_le_pow_right (n := 2) (by decide) (by omega)
    rw [Nat.div_eq_of_lt (by omega)] at c
    cases c
theorem z_boL {q y n : Nat} {P Q : Nat → Prop} (h : z_wbo q P Q y n) : y < 2 ^ q ∧ n < 2 ^ q := ⟨z_bitlt h.1.1 fun k hk c => ((h.2 k hk).1.mp c).1, z_bitlt h.1.2 fun k hk c => ((h.2 k hk).2.mp c).1⟩
theorem z_tuL {B : Nat → Nat} {q : Nat} {L : Nat → Int} {op : Nat → Prop} {o : Nat → Nat} : ∀ i y n, (∀ k, k < i → o k < q) → z_tuR B q L op o i y n → y < 2 ^ q ∧ n < 2 ^ q
  | 0, y, n, _, h => by
    have p := Nat.two_pow_pos q
    rw [h.1, h.2]
    exact ⟨p, p⟩
  | i + 1, y, n, ho, h => by
    obtain ⟨y0, n0, h1, h2⟩ := h
    have h3 := z_tuL i y0 n0 (fun k hk => ho k (by omega)) h1
    have h4 : 2 ^ o i < 2 ^ q := Nat.pow_lt_pow_right (by decide) (ho i (Nat.lt_succ_self i))
    rcases h2 with ⟨_, e1, e2⟩ | ⟨_, e1, e2⟩
    · rw [e1, e2]
      exact ⟨Nat.or_lt_two_pow h3.1 h4, h3.2⟩
    · rw [e1, e2]
      exact ⟨h3.1, Nat.or_lt_two_pow h3.2 h4⟩
theorem z_outL {c q pr en sh J ch y n : Nat} {B : Nat → Nat} {L : Nat → Int} {Y N : Nat → Nat} (h : z_wout c B q pr en L sh J ch Y N y n) (q1 : 1 ≤ q) : y < 2 ^ q ∧ n < 2 ^ q := by
  have p := Nat.two_pow_pos q
  rcases h with ⟨_, a1, a2⟩ | ⟨_, a⟩ | ⟨_, a⟩ | ⟨_, a⟩ | ⟨_, a⟩ | ⟨_, a⟩ | ⟨_, a⟩ | ⟨_, a⟩
  · rw [a1, a2]
    exact ⟨p, p⟩
  · exact z_boL a
  · obtain ⟨_, _, _, a⟩ := a
    exact z_boL a
  · obtain ⟨y1, n1, a1, ⟨_, e1, e2⟩ | ⟨s, _, a2⟩⟩ := a
    · rw [e1, e2]
      exact z_boL a1
    · exact z_boL a2
  · obtain ⟨_, _, a⟩ := a
    exact z_boL a
  · exact z_tuL q y n (fun k _ => Nat.mod_lt _ q1) a
  · exact z_tuL q y n (fun k _ => Nat.mod_lt _ q1) a
  · rcases a with ⟨_, a⟩ | ⟨_, a1, a2⟩
    · exact z_boL a
    · rw [a1, a2]
      exact ⟨p, p⟩
/-- what is answered of an outcome -/
def z_oA (B : Nat → Nat) (q t y n : Nat) (p x : Int) : Prop := (p = 0 ∧ x = (y : Int)) ∨ (p = 1 ∧ x = (n : Int)) ∨ (p = 2 ∧ (0 ≤ x ∧ x < 1024) ∧ ∀ k, k < 10 → (x.toNat / 2 ^ k % 2 = 1 ↔ k < q ∧ ¬ y / 2 ^ k % 2 = 1 ∧ ¬ n / 2 ^ k % 2 = 1)) ∨ (p = 3 ∧ z_brs B q t y n x) ∨ (p = 4 ∧ ((x = 1 ∧ ¬ z_cs B q y n) ∨ (x = 0 ∧ z_cs B q y n)))
theorem z_oAU {B : Nat → Nat} {q t y n : Nat} {p x x2 : Int} (h : z_oA B q t y n p x) (h2 : z_oA B q t y n p x2) : x = x2 := by
  rcases h with ⟨e, a⟩ | ⟨e, a⟩ | ⟨e, a0, a⟩ | ⟨e, a⟩ | ⟨e, a⟩
  · rcases h2 with ⟨e2, b⟩ | ⟨e2, b⟩ | ⟨e2, b0, b⟩ | ⟨e2, b⟩ | ⟨e2, b⟩
    all_goals first | (exfalso; omega) | exact a.trans b.symm
  · rcases h2 with ⟨e2, b⟩ | ⟨e2, b⟩ | ⟨e2, b0, b⟩ | ⟨e2, b⟩ | ⟨e2, b⟩
    all_goals first | (exfalso; omega) | exact a.trans b.symm
  · rcases h2 with ⟨e2, b⟩ | ⟨e2, b⟩ | ⟨e2, b0, b⟩ | ⟨e2, b⟩ | ⟨e2, b⟩
    all_goals first
      | (exfalso; omega)
      | (
          have e3 := z_beq (t := 10) (a := x.toNat) (b := x2.toNat) (by omega) (by omega) fun k hk => (a k hk).trans (b k hk).symm
          omega
        )
  · rcases h2 with ⟨e2, b⟩ | ⟨e2, b⟩ | ⟨e2, b0, b⟩ | ⟨e2, b⟩ | ⟨e2, b⟩
    all_goals first
      | (exfalso; omega)
      | (
          obtain ⟨a1, a2, a3⟩ := a
          obtain ⟨b1, b2, b3⟩ := b
          have e3 := z_beq a2 b2 fun k hk => (a3 k hk).trans (b3 k hk).symm
          omega
        )
  · rcases h2 with ⟨e2, b⟩ | ⟨e2, b⟩ | ⟨e2, b0, b⟩ | ⟨e2, b⟩ | ⟨e2, b⟩
    all_goals first
      | (exfalso; omega)
      | (
          rcases a with ⟨a1, a2⟩ | ⟨a1, a2⟩
          · rcases b with ⟨b1, b2⟩ | ⟨b1, b2⟩
            · exact a1.trans b1.symm
            · exact absurd b2 a2
          · rcases b with ⟨b1, b2⟩ | ⟨b1, b2⟩
            · exact absurd a2 b2
            · exact a1.trans b1.symm
        )
theorem z_p21 {q : Nat} {A : Int32} (hA : A.toInt = ((2 ^ q : Nat) : Int) - 1) (q10 : q ≤ 10) : 0 ≤ A.toInt ∧ A.toInt < 1024 := by
  have hP : 2 ^ q ≤ 1024 := Nat.pow_le_pow_right (n := 2) (by decide) q10
  have hP1 : 0 < 2 ^ q := Nat.two_pow_pos q
  generalize 2 ^ q = P at *
  omega
/-- what is open, in the class -/
theorem z_oA2 {A v s o e z : Int32} {q : Nat} (hA : A.toInt = ((2 ^ q : Nat) : Int) - 1) (q10 : q ≤ 10) (hv : 0 ≤ v.toInt ∧ v.toInt < 1048576) (h1 : s.toInt = v.toInt / 1024) (h2 : o = v ||| s) (h3 : e = o ^^^ (-1 : Int32)) (h4 : z = A &&& e) : (0 ≤ z.toInt ∧ z.toInt < 1024) ∧ ∀ k, k < 10 → (z.toInt.toNat / 2 ^ k % 2 = 1 ↔ k < q ∧ ¬ v.toInt.toNat % 1024 / 2 ^ k % 2 = 1 ∧ ¬ v.toInt.toNat / 1024 / 2 ^ k % 2 = 1) := by
  have hA2 := z_p21 hA q10
  obtain ⟨b1, b2⟩ := z_ib_or h2 hv.1 (by omega)
  obtain ⟨a1, a2, a3⟩ := z_ib_no h3 h4 hA2.1 b1
  refine ⟨⟨a1, by omega⟩, fun k hk => ?_⟩
  have h := a3 k
  rw [z_allb hA q10 k, b2 k] at h
  have u1 : z_ib v k ↔ v.toInt.toNat % 1024 / 2 ^ k % 2 = 1 := (z_md1024 _ k hk).symm
  have u2 : z_ib s k ↔ v.toInt.toNat / 1024 / 2 ^ k % 2 = 1 := by
    unfold z_ib
    rw [show s.toInt.toNat = v.toInt.toNat / 1024 by omega]
  rw [u1, u2] at h
  exact h.trans ⟨fun ⟨c1, c2⟩ => ⟨c1, fun c => c2 (Or.inl c), fun c => c2 (Or.inr c)⟩, fun ⟨c1, c2, c3⟩ => ⟨c1, fun c => c.elim c2 c3⟩⟩
/-- what is open, in the reference -/
theorem y_oA2 {A y e z n e2 w : Int32} {q : Nat} (hA : A.toInt = ((2 ^ q : Nat) : Int) - 1) (q10 : q ≤ 10) (hy : 0 ≤ y.toInt) (hn : 0 ≤ n.toInt) (h1 : e = y ^^^ (-1 : Int32)) (h2 : z = A &&& e) (h3 : e2 = n ^^^ (-1 : Int32)) (h4 : w = z &&& e2) : (0 ≤ w.toInt ∧ w.toInt < 1024) ∧ ∀ k, k < 10 → (w.toInt.toNat / 2 ^ k % 2 = 1 ↔ k < q ∧ ¬ y.toInt.toNat / 2 ^ k % 2 = 1 ∧ ¬ n.toInt.toNat / 2 ^ k % 2 = 1) := by
  have hA2 := z_p21 hA q10
  obtain ⟨a1, a2, a3⟩ := z_ib_no h1 h2 hA2.1 hy
  obtain ⟨b1, b2, b3⟩ := z_ib_no h3 h4 a1 hn
  refine ⟨⟨b1, by omega⟩, fun k hk => ?_⟩
  have h := b3 k
  rw [a3 k, z_allb hA q10 k] at h
  exact h.trans ⟨fun ⟨⟨c1, c2⟩, c3⟩ => ⟨c1, c2, c3⟩, fun ⟨c1, c2, c3⟩ => ⟨⟨c1, c2⟩, c3⟩⟩
