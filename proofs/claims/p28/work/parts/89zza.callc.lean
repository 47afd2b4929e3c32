/-! over all benches, the calls of the class -/
/-- a way of the class -/
def z_wyK (T : List zK) (M : zH) (p : Int32) (w c : Nat) (sh ch : Int32) : Prop := (4 ≤ c ∧ c ≤ 11) ∧ z_O M 12 p.toNatClampNeg = some w ∧ T[w]? = some (.inl (c, 0, 0, 0, 0)) ∧ z_F M w 1 = some (.int sh) ∧ z_F M w 2 = some (.int ch)
/-- an agenda of the class and its trial bench, as all benches ask it -/
def z_ag (T : List zK) (M : zH) (p : Int32) (b b2 N sa q t m pr en : Nat) (B : Nat → Nat) (S : Nat → Int32) (A : Int32) : Prop := z_AB T M p.toNatClampNeg b N q t m pr en B ∧ (z_O M 11 p.toNatClampNeg = some b2 ∧ T[b2]? = some (.inl (3, q, t, m, 5)) ∧ z_F M b2 0 = some (.ref N) ∧ z_lz M b2) ∧ (z_F M N 5 = some (.ref sa) ∧ T[sa]? = some (.inr (102, 0, m, 0, 1023)) ∧ ∀ k, k < m → z_Ar M sa k = S k) ∧ A.toInt = ((2 ^ q : Nat) : Int) - 1 ∧ (1 ≤ m ∧ m = z_lc B (2 ^ q)) ∧ z_blk T M
theorem z_agX {T : List zK} {M : zH} {V p : Int32} (hW : z_W M T) (hR : z_RR T M) (h9 : z_R89 T M) (hG : z_GG T M) (hV : z_F M 4 3 = some (.int V)) (hp : 0 ≤ p.toInt ∧ p.toInt < V.toInt) (V8 : V.toInt ≤ 8) : ∃ (b b2 N sa q t m pr en : Nat) (B : Nat → Nat) (S : Nat → Int32) (A : Int32), z_ag T M p b b2 N sa q t m pr en B S A := by
  obtain ⟨b, N, q, t, m, pr, en, B, hAB⟩ := hR.2.1 V hV p.toNatClampNeg (z_pc hp)
  have kb := hAB.2.1
  have g := hW.p3 kb
  have hp8 : p.toNatClampNeg < 8 := by
    show p.toInt.toNat < 8
    omega
  obtain ⟨f, e1, e2, e3⟩ := hW.aa (hW.k (k := 11) (κ := .inr (11, 2, 8, 5, 0)) rfl (by decide)) (by decide) (by decide)
  match hb : z_O M 11 p.toNatClampNeg with
  | none => exact absurd hb (hG.2.1.1 V hV p hp.1 hp.2).2
  | some b2 =>
    obtain ⟨q2, t2, m2, kb2⟩ : ∃ q t m, T[b2]? = some (.inl (3, q, t, m, 5)) := e3 p.toNatClampNeg b2 hp8 (by rw [← e2]; exact hb)
    obtain ⟨rfl, rfl, rfl⟩ := z_Gm hG.2.2 hW hp8 hAB.1 hb kb kb2
    have f0 := (hG.2.2 p.toNatClampNeg b b2 hp8 hAB.1 hb).symm.trans hAB.2.2.1
    obtain ⟨_, _, hm, _, _, _, ⟨sa, f5, ksa, _⟩, _⟩ := id hAB.2.2.2.1
    have hA : (Int32.ofNat (2 ^ q - 1)).toInt = ((2 ^ q : Nat) : Int) - 1 := by
      have hP : 2 ^ q ≤ 1024 := Nat.pow_le_pow_right (n := 2) (j := 10) (by decide) (by omega)
      have hP1 : 0 < 2 ^ q := Nat.two_pow_pos q
      rw [Int32.toInt_ofNat_of_lt (by omega)]
      omega
    exact ⟨b, b2, N, sa, q, t, m, pr, en, B, z_Ar M sa, Int32.ofNat (2 ^ q - 1), hAB, ⟨hb, kb2, f0, h9.2 b2 q t m kb2⟩, ⟨f5, ksa, fun _ _ => rfl⟩, hA, ⟨by omega, hm⟩, hR.2.2.1⟩
theorem z_wyX {T TA : List zK} {M : zH} {V p : Int32} (hWA : z_W M TA) (hW : z_W M T) (h1 : z_Rw1 TA M) (hV : z_F M 4 5 = some (.int V)) (hp : 0 ≤ p.toInt ∧ p.toInt < V.toInt) (hG : z_GG T M) (V20 : V.toInt ≤ 20) : ∃ (w c : Nat) (sh ch : Int32), z_wyK T M p w c sh ch ∧ (z_Ar M 36 p.toNatClampNeg).toInt + 4 = (c : Int) ∧ sh = z_Ar M 37 p.toNatClampNeg ∧ ch = z_Ar M 38 p.toNatClampNeg := by
  have hp20 : p.toNatClampNeg < 20 := by
    show p.toInt.toNat < 20
    omega
  obtain ⟨f, e1, e2, e3⟩ := hW.aa (hW.k (k := 12) (κ := .inr (12, 3, 20, 0, 0)) rfl (by decide)) (by decide) (by decide)
  match hb : z_O M 12 p.toNatClampNeg with
  | none => exact absurd hb (hG.2.1.2 V hV p hp.1 hp.2)
  | some w =>
    obtain ⟨c, c4, c11, kw⟩ : ∃ ci, 4 ≤ ci ∧ ci ≤ 11 ∧ T[w]? = some (.inl (ci, 0, 0, 0, 0)) := e3 p.toNatClampNeg w hp20 (by rw [← e2]; exact hb)
    obtain ⟨sh, f1, _, _⟩ := z_W.fi hW kw (k := 1) (lo := 0) (hi := 9) (z_nf8 ⟨c4, c11⟩ (by decide)) (z_fs8 ⟨c4, c11⟩)
    obtain ⟨ch, f2, _, _⟩ := z_W.fi hW kw (k := 2) (lo := 0) (hi := 8) (z_nf8 ⟨c4, c11⟩ (by decide)) (z_fs8 ⟨c4, c11⟩)
    obtain ⟨hc, g36, g37, g38⟩ := z_wayof hWA hW h1 hV hp hb kw f1 f2
    exact ⟨w, c, sh, ch, ⟨hc, hb, kw, f1, f2⟩, g36, g37, g38⟩
