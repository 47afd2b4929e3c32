/-! over all benches, the calls of the class -/
def z_vW (M : zH) (p1 p2 : Int32) : Prop := (0 ≤ p1.toInt ∧ p1.toInt < (z_Fv M 4 5).toInt) ∧ (0 ≤ p2.toInt ∧ p2.toInt < (z_Fv M 4 3).toInt)
/-- a way of the class -/
def z_wyK (T : List zK) (M : zH) (p : Int32) (w c : Nat) (sh ch : Int32) : Prop := (4 ≤ c ∧ c ≤ 11) ∧ z_O M 12 p.toNatClampNeg = some w ∧ T[w]? = some (.inl (c, 0, 0, 0, 0)) ∧ z_F M w 1 = some (.int sh) ∧ z_F M w 2 = some (.int ch)
/-- an agenda of the class and its trial bench, as all benches ask it -/
def z_ag (T : List zK) (M : zH) (p : Int32) (b b2 N sa q t m pr en : Nat) (B : Nat → Nat) (S : Nat → Int32) (A : Int32) : Prop := z_AB T M p.toNatClampNeg b N q t m pr en B ∧ (z_O M 11 p.toNatClampNeg = some b2 ∧ T[b2]? = some (.inl (3, q, t, m, 5)) ∧ z_F M b2 0 = some (.ref N) ∧ z_lz M b2) ∧ (z_F M N 5 = some (.ref sa) ∧ T[sa]? = some (.inr (102, 0, m, 0, 1023)) ∧ ∀ k, k < m → z_Ar M sa k = S k) ∧ A.toInt = ((2 ^ q : Nat) : Int) - 1 ∧ (1 ≤ m ∧ m = z_lc B (2 ^ q)) ∧ z_blk T M
theorem z_agX {T : List zK} {M : zH} {V p : Int32} (hW : z_W M T) (hR : z_RR T M) (h9 : z_R89 T M) (hG : z_GG T M) (hV : z_F M 4 3 = some (.int V)) (hp : 0 ≤ p.toInt ∧ p.toInt < V.toInt) (V8 : V.toInt ≤ 8) : ∃ (b b2 N sa q t m pr en : Nat) (B : Nat → Nat) (S : Nat → Int32) (A : Int32), z_ag T M p b b2 N sa q t m pr en B S A := by
  obtain ⟨b, N, q, t, m, pr, en, B, hAB⟩ := hR.2.1 V hV p.toNatClampNeg (z_pc hp)
  have kb := hAB.2.1
  have g := hW.p3 kb
  have hp8 : p.toNatClampNeg < 8 := by
    show p.toInt.toNat < 8
    omega
  obtain ⟨f, e1, e2, e3⟩ := hW.aa (hW.k (k := 11) (κ := .inr (11, 2, 8, 5, 0)) rfl (by decide)) (by decide) (by decide)
  match hb : z_O M 11 p.toNatClampNeg with
  | none => exact absurd hb (hG.2.1.1 V hV p hp.1 hp.2).2
  | some b2 =>
    obtain ⟨q2, t2, m2, kb2⟩ : ∃ q t m, T[b2]? = some (.inl (3, q, t, m, 5)) := e3 p.toNatClampNeg b2 hp8 (by rw [← e2]; exact hb)
    obtain ⟨rfl, rfl, rfl⟩ := z_Gm hG.2.2 hW hp8 hAB.1 hb kb kb2
    have f0 := (hG.2.2 p.toNatClampNeg b b2 hp8 hAB.1 hb).symm.trans hAB.2.2.1
    obtain ⟨_, _, hm, _, _, _, ⟨sa, f5, ksa, _⟩, _⟩ := id hAB.2.2.2.1
    have hA : (Int32.ofNat (2 ^ q - 1)).toInt = ((2 ^ q : Nat) : Int) - 1 := by
      have hP : 2 ^ q ≤ 1024 := Nat.pow_le_pow_right (n := 2) (j := 10) (by decide) (by omega)
      have hP1 : 0 < 2 ^ q := Nat.two_pow_pos q
      rw [Int32.toInt_ofNat_of_lt (by omega)]
      omega
    exact ⟨b, b2, N, sa, q, t, m, pr, en, B, z_Ar M sa, Int32.ofNat (2 ^ q - 1), hAB, ⟨hb, kb2, f0, h9.2 b2 q t m kb2⟩, ⟨f5, ksa, fun _ _ => rfl⟩, hA, ⟨by omega, hm⟩, hR.2.2.1⟩
theorem z_wyX {T TA : List zK} {M : zH} {V p : Int32} (hWA : z_W M TA) (hW : z_W M T) (h1 : z_Rw1 TA M) (hV : z_F M 4 5 = some (.int V)) (hp : 0 ≤ p.toInt ∧ p.toInt < V.toInt) (hG : z_GG T M) (V20 : V.toInt ≤ 20) : ∃ (w c : Nat) (sh ch : Int32), z_wyK T M p w c sh ch ∧ (z_Ar M 36 p.toNatClampNeg).toInt + 4 = (c : Int) ∧ sh = z_Ar M 37 p.toNatClampNeg ∧ ch = z_Ar M 38 p.toNatClampNeg := by
  have hp20 : p.toNatClampNeg < 20 := by
    show p.toInt.toNat < 20
    omega
  obtain ⟨f, e1, e2, e3⟩ := hW.aa (hW.k (k := 12) (κ := .inr (12, 3, 20, 0, 0)) rfl (by decide)) (by decide) (by decide)
  match hb : z_O M 12 p.toNatClampNeg with
  | none => exact absurd hb (hG.2.1.2 V hV p hp.1 hp.2)
  | some w =>
    obtain ⟨c, c4, c11, kw⟩ : ∃ ci, 4 ≤ ci ∧ ci ≤ 11 ∧ T[w]? = some (.inl (ci, 0, 0, 0, 0)) := e3 p.toNatClampNeg w hp20 (by rw [← e2]; exact hb)
    obtain ⟨sh, f1, _, _⟩ := z_W.fi hW kw (k := 1) (lo := 0) (hi := 9) (z_nf8 ⟨c4, c11⟩ (by decide)) (z_fs8 ⟨c4, c11⟩)
    obtain ⟨ch, f2, _, _⟩ := z_W.fi hW kw (k := 2) (lo := 0) (hi := 8) (z_nf8 ⟨c4, c11⟩ (by decide)) (z_fs8 ⟨c4, c11⟩)
    obtain ⟨hc, g36, g37, g38⟩ := z_wayof hWA hW h1 hV hp hb kw f1 f2
    exact ⟨w, c, sh, ch, ⟨hc, hb, kw, f1, f2⟩, g36, g37, g38⟩
theorem zUC106 {T : List zK} {d : Nat} {K : Option Value → zH → Prop} {p1 : Int32} {p2 : Int32} {p3 : Int32} {p4 : Int32} {M0 : zH} (hW : z_W M0 T) (hG : z_GG T M0) (hch : z_chO M0) {w cw b b2 NN sa q t m pr en : Nat} {B : Nat → Nat} {S : Nat → Int32} {A sh ch : Int32} (hD : z_vW M0 p1 p2 → z_wyK T M0 p1 w cw sh ch ∧ z_ag T M0 p2 b b2 NN sa q t m pr en B S A) (kk : ∀ (x : Int32) (M1 : zH), z_X T zw106 M0 M1 → z_aA (z_vW M0 p1 p2) ((1 ≤ p3.toInt ∧ p3.toInt ≤ 5) ∧ 0 ≤ p4.toInt ∧ p4.toInt ≤ 1) m (z_kA (z_pUn cw B q pr en sh.toInt.toNat ch.toInt.toNat m p3.toInt.toNat S A) (fun k => (z_cdB (z_bk m p3.toInt.toNat k) p3.toInt.toNat : Int)) (z_T m p3.toInt.toNat) p4.toInt x.toInt) x.toInt → K (some (.int x)) M1) : z_ev (d + 5) 106 0 [some (.ref 4), some (.int p1), some (.int p2), some (.int p3), some (.int p4), none, none] [] M0 K := by
  have X : z_X T zw106 M0 M0 := .refl hW
  refine z_xP zt106 0 2 [some (.ref 4), some (.int p1), some (.int p2), some (.int p3), some (.int p4), none, none] [.int p1, .ref 4] rfl rfl ?_
  have f4 : T[4]? = some (.inl (0, 0, 0, 0, 0)) := X.1.k rfl (by decide)
  refine z_xcV (vs := [.ref 4, .int p1]) (r := []) (L2 := [some (.ref 4), some (.int p1)]) zt106 1 rfl zo106 zzcV0_221 (Or.inl rfl) rfl X f4 rfl rfl rfl (Nat.le_of_ble_eq_true rfl) zzm84 (Nat.le_of_ble_eq_true rfl) rfl ?_
  refine z_xP zt84 0 1 [some (.ref 4), some (.int p1)] [.int p1] rfl rfl ?_
  refine z_xZ zt84 1 rfl rfl (fun (h1 : p1.toInt < 0) => ?_) (fun (h1 : 0 ≤ p1.toInt) => ?_)
  · skip
    refine z_xP zt84 5 22 [some (.ref 4), some (.int p1)] [.null] rfl rfl ?_
    refine z_xrn zt84 10 rfl zzr84 ?_
    show z_ev (d + 5) 106 5 [some (.ref 4), some (.int p1), some (.int p2), some (.int p3), some (.int p4), none, none] [.null] M0 _
    refine z_xP zt106 2 20 [some (.ref 4), some (.int p1), some (.int p2), some (.int p3), some (.int p4), some (.null), none] [] rfl rfl ?_
    refine z_xP zt106 6 21 [some (.ref 4), some (.int p1), some (.int p2), some (.int p3), some (.int p4), some (.null), none] [.int (-1)] rfl rfl ?_
    have qm1 : (((-1) : Int32)).toInt = (-1) := rfl
    exact z_xri zt106 7 rfl zzr106 (kk (-1) M0 X (Or.inl ⟨rfl, by unfold z_vW; omega⟩))
  refine z_xP zt84 2 6 [some (.ref 4), some (.int p1)] [.ref 4, .int p1] rfl rfl ?_
  refine z_xgI zt84 3 rfl zo84 zzf0_188 X f4 (by decide) (by decide) rfl (fun (x3 : Int32) h2 (h4 : 0 ≤ x3.toInt) (h5 : x3.toInt ≤ 20) => ?_)
  have ex3 : (z_Fv M0 4 5).toInt = x3.toInt := by rw [z_Fv.of h2]
  have h6 := z_b32 p1
  refine z_xJ zt84 4 rfl rfl (fun (h7 : p1.toInt < x3.toInt) => ?_) (fun (h7 : x3.toInt ≤ p1.toInt) => ?_)
  · skip
    refine z_xP zt84 6 17 [some (.ref 4), some (.int p1)] [.ref 4] rfl rfl ?_
    refine z_xgX (b := 12) zt84 7 rfl zo84 zzf0_27 X f4 (by decide) (by decide) rfl ?_
    refine z_xP zt84 8 21 [some (.ref 4), some (.int p1)] [.int p1, .ref 12] rfl rfl ?_
    have f12 : T[12]? = some (.inr (12, 3, 20, 0, 0)) := X.1.k rfl (by decide)
    refine z_xal zt84 9 rfl X f12 (by decide) (by decide) (by decide) (by omega) (by omega) (fun (a8 : Nat) h9 h10 => ?_) (fun h11 => absurd h11 (z_Gb (hG.go X (by decide)).2.1 h2 (by omega) (by omega)))
    obtain ⟨c12, w13l, w13u, k14⟩ : ∃ ci, 4 ≤ ci ∧ ci ≤ 11 ∧ T[a8]? = some (.inl (ci, 0, 0, 0, 0)) := h10
    have w13 := And.intro w13l w13u
    refine z_xra zt84 10 rfl zzr84 ?_
    show z_ev (d + 5) 106 5 [some (.ref 4), some (.int p1), some (.int p2), some (.int p3), some (.int p4), none, none] [.ref a8] M0 _
    refine z_xP zt106 2 12 [some (.ref 4), some (.int p1), some (.int p2), some (.int p3), some (.int p4), some (.ref a8), none] [] rfl rfl ?_
    refine z_xP zt106 3 14 [some (.ref 4), some (.int p1), some (.int p2), some (.int p3), some (.int p4), some (.ref a8), none] [.int p4] rfl rfl ?_
    refine z_xcS (vs := [.int p4]) (r := []) (L2 := [some (.int p4)]) zt106 4 rfl zo106 zzcS0_172 (Or.inl rfl) (Nat.le_of_ble_eq_true rfl) rfl rfl (Nat.le_of_ble_eq_true rfl) zzm64 (Nat.le_of_ble_eq_true rfl) rfl ?_
    refine z_xP zt64 0 1 [some (.int p4)] [.int p4] rfl rfl ?_
    refine z_xZ zt64 1 rfl rfl (fun (h15 : p4.toInt = 0) => ?_) (fun (h15 : p4.toInt ≠ 0) => ?_)
    · skip
      refine z_xP zt64 4 14 [some (.int p4)] [.int 1] rfl rfl ?_
      refine z_xrz zt64 6 rfl zzr64 (by decide) (by decide) ?_
      show z_ev (d + 5) 106 17 [some (.ref 4), some (.int p1), some (.int p2), some (.int p3), some (.int p4), some (.ref a8), none] [.int 1] M0 _
      refine z_xZ zt106 5 rfl rfl (fun (h16 : (1 : Int) ≠ 0) => ?_) (fun (h16 : (1 : Int) = 0) => absurd h16 (by omega))
      refine z_xP zt106 8 25 [some (.ref 4), some (.int p1), some (.int p2), some (.int p3), some (.int p4), some (.ref a8), none] [.int p3, .int p2, .ref 4] rfl rfl ?_
      refine z_xcV (vs := [.ref 4, .int p2, .int p3]) (r := []) (L2 := [some (.ref 4), some (.int p2), some (.int p3), none]) zt106 9 rfl zo106 zzcV0_241 (Or.inl rfl) rfl X f4 rfl rfl rfl (Nat.le_of_ble_eq_true rfl) zzm103 (Nat.le_of_ble_eq_true rfl) rfl ?_
      refine z_xP zt103 0 2 [some (.ref 4), some (.int p2), some (.int p3), none] [.int p2, .ref 4] rfl rfl ?_
      refine z_xcV (vs := [.ref 4, .int p2]) (r := []) (L2 := [some (.ref 4), some (.int p2)]) zt103 1 rfl zo103 zzcV0_108 (Or.inl rfl) rfl X f4 rfl rfl rfl (Nat.le_of_ble_eq_true rfl) zzm37 (Nat.le_of_ble_eq_true rfl) rfl ?_
      refine z_xP zt37 0 1 [some (.ref 4), some (.int p2)] [.int p2] rfl rfl ?_
      refine z_xZ zt37 1 rfl rfl (fun (h17 : p2.toInt < 0) => ?_) (fun (h17 : 0 ≤ p2.toInt) => ?_)
      · skip
        refine z_xP zt37 5 25 [some (.ref 4), some (.int p2)] [.null] rfl rfl ?_
        refine z_xrn zt37 11 rfl zzr37 ?_
        show z_ev (d + 4) 103 5 [some (.ref 4), some (.int p2), some (.int p3), none] [.null] M0 _
        refine z_xP zt103 2 20 [some (.ref 4), some (.int p2), some (.int p3), some (.null)] [] rfl rfl ?_
        refine z_xP zt103 7 21 [some (.ref 4), some (.int p2), some (.int p3), some (.null)] [.int (-1)] rfl rfl ?_
        refine z_xri zt103 8 rfl zzr103 ?_
        show z_ev (d + 5) 106 28 [some (.ref 4), some (.int p1), some (.int p2), some (.int p3), some (.int p4), some (.ref a8), none] [.int (-1)] M0 _
        refine z_xP zt106 10 32 [some (.ref 4), some (.int p1), some (.int p2), some (.int p3), some (.int p4), some (.ref a8), some (.int (-1))] [.int (-1)] rfl rfl ?_
        refine z_xZ zt106 11 rfl rfl (fun (h18 : ((-1) : Int) = 0) => absurd h18 (by omega)) (fun (h18 : ((-1) : Int) ≠ 0) => ?_)
        refine z_xP zt106 12 37 [some (.ref 4), some (.int p1), some (.int p2), some (.int p3), some (.int p4), some (.ref a8), some (.int (-1))] [.int (-1)] rfl rfl ?_
        have qm1 : (((-1) : Int32)).toInt = (-1) := rfl
        exact z_xri zt106 13 rfl zzr106 (kk (-1) M0 X (Or.inl ⟨rfl, by unfold z_vW; omega⟩))
      refine z_xP zt37 2 6 [some (.ref 4), some (.int p2)] [.ref 4, .int p2] rfl rfl ?_
      refine z_xgI zt37 3 rfl zo37 zzf0_59 X f4 (by decide) (by decide) rfl (fun (x20 : Int32) h19 (h21 : 0 ≤ x20.toInt) (h22 : x20.toInt ≤ 8) => ?_)
      have ex20 : (z_Fv M0 4 3).toInt = x20.toInt := by rw [z_Fv.of h19]
      have h23 := z_b32 p2
      refine z_xJ zt37 4 rfl rfl (fun (h24 : p2.toInt < x20.toInt) => ?_) (fun (h24 : x20.toInt ≤ p2.toInt) => ?_)
      · skip
        refine z_xP zt37 6 17 [some (.ref 4), some (.int p2)] [.ref 4] rfl rfl ?_
        refine z_xgX (b := 10) zt37 7 rfl zo37 zzf0_18 X f4 (by decide) (by decide) rfl ?_
        refine z_xP zt37 8 21 [some (.ref 4), some (.int p2)] [.int p2, .ref 10] rfl rfl ?_
        have f10 : T[10]? = some (.inr (10, 2, 8, 9, 0)) := X.1.k rfl (by decide)
        refine z_xal zt37 9 rfl X f10 (by decide) (by decide) (by decide) (by omega) (by omega) (fun (a25 : Nat) h26 h27 => ?_) (fun h28 => absurd h28 (z_Gs (hG.go X (by decide)).2.1 h19 (by omega) (by omega)))
        obtain ⟨q29, t30, m31, k32⟩ : ∃ q t m, T[a25]? = some (.inl (3, q, t, m, 9)) := h27
        have g33 := X.1.p3 k32
        have hv : z_vW M0 p1 p2 := by unfold z_vW; omega
        obtain ⟨⟨hcp1, owp1, kwp1, fsp1, fcp1⟩, hAB, ⟨ob2, kb2, fN, hlz⟩, ⟨hsa, ksa, hSS⟩, hA, hm, hbk⟩ := hD hv
        obtain ⟨eq0, em0⟩ : q29 = q ∧ m31 = m := by
          have e := hAB.2.1
          rw [← show a25 = b from Option.some.inj (h26.symm.trans hAB.1), k32] at e
          cases e
          exact ⟨rfl, rfl⟩
        refine z_xgR (κ := .inl (2, q29, t30, m31, 0)) zt37 10 rfl zo37 zzf0_89 X k32 (by decide) (by decide) rfl (fun (a35 : Nat) h34 k36 => ?_)
        have g37 := X.1.p2 k36
        refine z_xra zt37 11 rfl zzr37 ?_
        show z_ev (d + 4) 103 5 [some (.ref 4), some (.int p2), some (.int p3), none] [.ref a35] M0 _
        refine z_xP zt103 2 10 [some (.ref 4), some (.int p2), some (.int p3), some (.ref a35)] [] rfl rfl ?_
        refine z_xP zt103 3 12 [some (.ref 4), some (.int p2), some (.int p3), some (.ref a35)] [.int 1, .int p3] rfl rfl ?_
        refine z_xJ zt103 4 rfl rfl (fun (h38 : p3.toInt < 1) => ?_) (fun (h38 : 1 ≤ p3.toInt) => ?_)
        · skip
          refine z_xP zt103 7 21 [some (.ref 4), some (.int p2), some (.int p3), some (.ref a35)] [.int (-1)] rfl rfl ?_
          refine z_xri zt103 8 rfl zzr103 ?_
          show z_ev (d + 5) 106 28 [some (.ref 4), some (.int p1), some (.int p2), some (.int p3), some (.int p4), some (.ref a8), none] [.int (-1)] M0 _
          refine z_xP zt106 10 32 [some (.ref 4), some (.int p1), some (.int p2), some (.int p3), some (.int p4), some (.ref a8), some (.int (-1))] [.int (-1)] rfl rfl ?_
          refine z_xZ zt106 11 rfl rfl (fun (h39 : ((-1) : Int) = 0) => absurd h39 (by omega)) (fun (h39 : ((-1) : Int) ≠ 0) => ?_)
          refine z_xP zt106 12 37 [some (.ref 4), some (.int p1), some (.int p2), some (.int p3), some (.int p4), some (.ref a8), some (.int (-1))] [.int (-1)] rfl rfl ?_
          have qm1 : (((-1) : Int32)).toInt = (-1) := rfl
          exact z_xri zt106 13 rfl zzr106 (kk (-1) M0 X (Or.inl ⟨rfl, by unfold z_vW; omega⟩))
        refine z_xP zt103 5 17 [some (.ref 4), some (.int p2), some (.int p3), some (.ref a35)] [.int 5, .int p3] rfl rfl ?_
        refine z_xJ zt103 6 rfl rfl (fun (h40 : p3.toInt ≤ 5) => ?_) (fun (h40 : 5 < p3.toInt) => ?_)
        · skip
          refine z_xP zt103 9 23 [some (.ref 4), some (.int p2), some (.int p3), some (.ref a35)] [.ref a35] rfl rfl ?_
          refine z_xgR (κ := .inr (102, 0, m31, 0, 1023)) zt103 10 rfl zo103 zzf0_74 X k36 (by decide) (by decide) rfl (fun (a42 : Nat) h41 k43 => ?_)
          refine z_xln zt103 11 rfl X k43 (by decide) (by omega) (fun (x44 : Int32) (h45 : x44.toInt = ((m31 : Nat) : Int)) => ?_)
          refine z_xP zt103 12 29 [some (.ref 4), some (.int p2), some (.int p3), some (.ref a35)] [.int 12, .int x44] rfl rfl ?_
          refine z_xJ zt103 13 rfl rfl (fun (h46 : x44.toInt ≤ 12) => ?_) (fun (h46 : 12 < x44.toInt) => ?_)
          · skip
            refine z_xP zt103 15 38 [some (.ref 4), some (.int p2), some (.int p3), some (.ref a35)] [.int 0] rfl rfl ?_
            refine z_xri zt103 16 rfl zzr103 ?_
            show z_ev (d + 5) 106 28 [some (.ref 4), some (.int p1), some (.int p2), some (.int p3), some (.int p4), some (.ref a8), none] [.int 0] M0 _
            refine z_xP zt106 10 32 [some (.ref 4), some (.int p1), some (.int p2), some (.int p3), some (.int p4), some (.ref a8), some (.int 0)] [.int 0] rfl rfl ?_
            refine z_xZ zt106 11 rfl rfl (fun (h47 : (0 : Int) = 0) => ?_) (fun (h47 : (0 : Int) ≠ 0) => absurd h47 (by omega))
            refine z_xP zt106 14 41 [some (.ref 4), some (.int p1), some (.int p2), some (.int p3), some (.int p4), some (.ref a8), some (.int 0)] [.ref 4, .ref a8] rfl rfl ?_
            refine z_xgX (b := 11) zt106 15 rfl zo106 zzf0_22 X f4 (by decide) (by decide) rfl ?_
            refine z_xP zt106 16 45 [some (.ref 4), some (.int p1), some (.int p2), some (.int p3), some (.int p4), some (.ref a8), some (.int 0)] [.int p2, .ref 11, .ref a8] rfl rfl ?_
            have f11 : T[11]? = some (.inr (11, 2, 8, 5, 0)) := X.1.k rfl (by decide)
            refine z_xal zt106 17 rfl X f11 (by decide) (by decide) (by decide) (by omega) (by omega) (fun (a48 : Nat) h49 h50 => ?_) (fun h51 => absurd h51 (z_Gt (hG.go X (by decide)).2.1 h19 (by omega) (by omega)))
            obtain ⟨q52, t53, m54, k55⟩ : ∃ q t m, T[a48]? = some (.inl (3, q, t, m, 5)) := h50
            have g56 := X.1.p3 k55
            have h57 := z_Gm (hG.go X (by decide)).2.2 X.1 (z_cll (n := 8) (by omega) (by decide)) h26 h49 k32 k55
            refine z_xP zt106 18 50 [some (.ref 4), some (.int p1), some (.int p2), some (.int p3), some (.int p4), some (.ref a8), some (.int 0)] [.int 1, .int p4, .int p3, .ref a48, .ref a8] rfl rfl ?_
            refine z_xJ zt106 19 rfl rfl (fun (h58 : p4.toInt ≠ 1) => ?_) (fun (h58 : p4.toInt = 1) => absurd h58 (by omega))
            refine z_xP zt106 21 58 [some (.ref 4), some (.int p1), some (.int p2), some (.int p3), some (.int p4), some (.ref a8), some (.int 0)] [.int 0, .int p3, .ref a48, .ref a8] rfl rfl ?_
            refine z_xcV (vs := [.ref a8, .ref a48, .int p3, .int 0]) (r := []) (L2 := [some (.ref a8), some (.ref a48), some (.int p3), some (.int 0), none, none, none]) zt106 22 rfl zo106 zzcV0_248 (Or.inr rfl) rfl X k14 (z_w8 (fun c => (([(4, 107), (10, 107), (7, 107), (5, 107), (11, 107), (8, 107), (6, 107), (9, 107)] : List (Nat × Nat)).find? fun t => t.1 == c) = some (c, 107)) rfl rfl rfl rfl rfl rfl rfl rfl w13) rfl rfl (Nat.le_of_ble_eq_true rfl) zzm107 (Nat.le_of_ble_eq_true rfl) rfl ?_
            have q0 : ((0 : Int32)).toInt = 0 := rfl
            have q0 : ((0 : Int32)).toInt = 0 := rfl
            have ea8 : a8 = w := Option.some.inj (h9.symm.trans owp1)
            have ea48 : a48 = b2 := Option.some.inj (h49.symm.trans ob2)
            refine zUC107 X.1 hcp1 (by rw [ea8]; exact kwp1) (by rw [ea48]; exact kb2) (by omega) (by decide) hbk (by rw [ea48]; exact fN) hAB.2.2.2.1 hsa ksa hSS hA (by rw [ea48]; exact hlz) hch ⟨hAB.2.2.2.2.2.2.1.2, hAB.2.2.2.2.2.2.2.1.2⟩ (by rw [ea8]; exact fsp1) (by rw [ea8]; exact fcp1) ⟨hm.1, by omega⟩ (fun x61 M59 X60 hka _ => ?_)
            have X62 := X.go X60 (z_sb (by decide))
            show z_ev (d + 5) 106 61 [some (.ref 4), some (.int p1), some (.int p2), some (.int p3), some (.int p4), some (.ref a8), some (.int 0)] [.int x61] M59 _
            exact z_xri zt106 23 rfl zzr106 (kk x61 M59 X62 (Or.inr ⟨⟨hv, by omega⟩, Or.inr ⟨by omega, by rw [h15]; exact hka⟩⟩))
          refine z_xP zt103 14 38 [some (.ref 4), some (.int p2), some (.int p3), some (.ref a35)] [.int (-4)] rfl rfl ?_
          refine z_xri zt103 16 rfl zzr103 ?_
          show z_ev (d + 5) 106 28 [some (.ref 4), some (.int p1), some (.int p2), some (.int p3), some (.int p4), some (.ref a8), none] [.int (-4)] M0 _
          refine z_xP zt106 10 32 [some (.ref 4), some (.int p1), some (.int p2), some (.int p3), some (.int p4), some (.ref a8), some (.int (-4))] [.int (-4)] rfl rfl ?_
          refine z_xZ zt106 11 rfl rfl (fun (h64 : ((-4) : Int) = 0) => absurd h64 (by omega)) (fun (h64 : ((-4) : Int) ≠ 0) => ?_)
          refine z_xP zt106 12 37 [some (.ref 4), some (.int p1), some (.int p2), some (.int p3), some (.int p4), some (.ref a8), some (.int (-4))] [.int (-4)] rfl rfl ?_
          have qm4 : (((-4) : Int32)).toInt = (-4) := rfl
          exact z_xri zt106 13 rfl zzr106 (kk (-4) M0 X (Or.inr ⟨⟨hv, by omega⟩, Or.inl ⟨rfl, by omega⟩⟩))
        refine z_xP zt103 7 21 [some (.ref 4), some (.int p2), some (.int p3), some (.ref a35)] [.int (-1)] rfl rfl ?_
        refine z_xri zt103 8 rfl zzr103 ?_
        show z_ev (d + 5) 106 28 [some (.ref 4), some (.int p1), some (.int p2), some (.int p3), some (.int p4), some (.ref a8), none] [.int (-1)] M0 _
        refine z_xP zt106 10 32 [some (.ref 4), some (.int p1), some (.int p2), some (.int p3), some (.int p4), some (.ref a8), some (.int (-1))] [.int (-1)] rfl rfl ?_
        refine z_xZ zt106 11 rfl rfl (fun (h65 : ((-1) : Int) = 0) => absurd h65 (by omega)) (fun (h65 : ((-1) : Int) ≠ 0) => ?_)
        refine z_xP zt106 12 37 [some (.ref 4), some (.int p1), some (.int p2), some (.int p3), some (.int p4), some (.ref a8), some (.int (-1))] [.int (-1)] rfl rfl ?_
        have qm1 : (((-1) : Int32)).toInt = (-1) := rfl
        exact z_xri zt106 13 rfl zzr106 (kk (-1) M0 X (Or.inl ⟨rfl, by unfold z_vW; omega⟩))
      refine z_xP zt37 5 25 [some (.ref 4), some (.int p2)] [.null] rfl rfl ?_
      refine z_xrn zt37 11 rfl zzr37 ?_
      show z_ev (d + 4) 103 5 [some (.ref 4), some (.int p2), some (.int p3), none] [.null] M0 _
      refine z_xP zt103 2 20 [some (.ref 4), some (.int p2), some (.int p3), some (.null)] [] rfl rfl ?_
      refine z_xP zt103 7 21 [some (.ref 4), some (.int p2), some (.int p3), some (.null)] [.int (-1)] rfl rfl ?_
      refine z_xri zt103 8 rfl zzr103 ?_
      show z_ev (d + 5) 106 28 [some (.ref 4), some (.int p1), some (.int p2), some (.int p3), some (.int p4), some (.ref a8), none] [.int (-1)] M0 _
      refine z_xP zt106 10 32 [some (.ref 4), some (.int p1), some (.int p2), some (.int p3), some (.int p4), some (.ref a8), some (.int (-1))] [.int (-1)] rfl rfl ?_
      refine z_xZ zt106 11 rfl rfl (fun (h66 : ((-1) : Int) = 0) => absurd h66 (by omega)) (fun (h66 : ((-1) : Int) ≠ 0) => ?_)
      refine z_xP zt106 12 37 [some (.ref 4), some (.int p1), some (.int p2), some (.int p3), some (.int p4), some (.ref a8), some (.int (-1))] [.int (-1)] rfl rfl ?_
      have qm1 : (((-1) : Int32)).toInt = (-1) := rfl
      exact z_xri zt106 13 rfl zzr106 (kk (-1) M0 X (Or.inl ⟨rfl, by unfold z_vW; omega⟩))
    refine z_xP zt64 2 6 [some (.int p4)] [.int 1, .int p4] rfl rfl ?_
    refine z_xJ zt64 3 rfl rfl (fun (h67 : p4.toInt ≠ 1) => ?_) (fun (h67 : p4.toInt = 1) => ?_)
    · skip
      refine z_xP zt64 5 14 [some (.int p4)] [.int 0] rfl rfl ?_
      refine z_xrz zt64 6 rfl zzr64 (by decide) (by decide) ?_
      show z_ev (d + 5) 106 17 [some (.ref 4), some (.int p1), some (.int p2), some (.int p3), some (.int p4), some (.ref a8), none] [.int 0] M0 _
      refine z_xZ zt106 5 rfl rfl (fun (h68 : (0 : Int) ≠ 0) => absurd h68 (by omega)) (fun (h68 : (0 : Int) = 0) => ?_)
      refine z_xP zt106 6 21 [some (.ref 4), some (.int p1), some (.int p2), some (.int p3), some (.int p4), some (.ref a8), none] [.int (-1)] rfl rfl ?_
      have qm1 : (((-1) : Int32)).toInt = (-1) := rfl
      exact z_xri zt106 7 rfl zzr106 (kk (-1) M0 X (Or.inl ⟨rfl, by unfold z_vW; omega⟩))
    refine z_xP zt64 4 14 [some (.int p4)] [.int 1] rfl rfl ?_
    refine z_xrz zt64 6 rfl zzr64 (by decide) (by decide) ?_
    show z_ev (d + 5) 106 17 [some (.ref 4), some (.int p1), some (.int p2), some (.int p3), some (.int p4), some (.ref a8), none] [.int 1] M0 _
    refine z_xZ zt106 5 rfl rfl (fun (h69 : (1 : Int) ≠ 0) => ?_) (fun (h69 : (1 : Int) = 0) => absurd h69 (by omega))
    refine z_xP zt106 8 25 [some (.ref 4), some (.int p1), some (.int p2), some (.int p3), some (.int p4), some (.ref a8), none] [.int p3, .int p2, .ref 4] rfl rfl ?_
    refine z_xcV (vs := [.ref 4, .int p2, .int p3]) (r := []) (L2 := [some (.ref 4), some (.int p2), some (.int p3), none]) zt106 9 rfl zo106 zzcV0_241 (Or.inl rfl) rfl X f4 rfl rfl rfl (Nat.le_of_ble_eq_true rfl) zzm103 (Nat.le_of_ble_eq_true rfl) rfl ?_
    refine z_xP zt103 0 2 [some (.ref 4), some (.int p2), some (.int p3), none] [.int p2, .ref 4] rfl rfl ?_
    refine z_xcV (vs := [.ref 4, .int p2]) (r := []) (L2 := [some (.ref 4), some (.int p2)]) zt103 1 rfl zo103 zzcV0_108 (Or.inl rfl) rfl X f4 rfl rfl rfl (Nat.le_of_ble_eq_true rfl) zzm37 (Nat.le_of_ble_eq_true rfl) rfl ?_
    refine z_xP zt37 0 1 [some (.ref 4), some (.int p2)] [.int p2] rfl rfl ?_
    refine z_xZ zt37 1 rfl rfl (fun (h70 : p2.toInt < 0) => ?_) (fun (h70 : 0 ≤ p2.toInt) => ?_)
    · skip
      refine z_xP zt37 5 25 [some (.ref 4), some (.int p2)] [.null] rfl rfl ?_
      refine z_xrn zt37 11 rfl zzr37 ?_
      show z_ev (d + 4) 103 5 [some (.ref 4), some (.int p2), some (.int p3), none] [.null] M0 _
      refine z_xP zt103 2 20 [some (.ref 4), some (.int p2), some (.int p3), some (.null)] [] rfl rfl ?_
      refine z_xP zt103 7 21 [some (.ref 4), some (.int p2), some (.int p3), some (.null)] [.int (-1)] rfl rfl ?_
      refine z_xri zt103 8 rfl zzr103 ?_
      show z_ev (d + 5) 106 28 [some (.ref 4), some (.int p1), some (.int p2), some (.int p3), some (.int p4), some (.ref a8), none] [.int (-1)] M0 _
      refine z_xP zt106 10 32 [some (.ref 4), some (.int p1), some (.int p2), some (.int p3), some (.int p4), some (.ref a8), some (.int (-1))] [.int (-1)] rfl rfl ?_
      refine z_xZ zt106 11 rfl rfl (fun (h71 : ((-1) : Int) = 0) => absurd h71 (by omega)) (fun (h71 : ((-1) : Int) ≠ 0) => ?_)
      refine z_xP zt106 12 37 [some (.ref 4), some (.int p1), some (.int p2), some (.int p3), some (.int p4), some (.ref a8), some (.int (-1))] [.int (-1)] rfl rfl ?_
      have qm1 : (((-1) : Int32)).toInt = (-1) := rfl
      exact z_xri zt106 13 rfl zzr106 (kk (-1) M0 X (Or.inl ⟨rfl, by unfold z_vW; omega⟩))
    refine z_xP zt37 2 6 [some (.ref 4), some (.int p2)] [.ref 4, .int p2] rfl rfl ?_
    refine z_xgI zt37 3 rfl zo37 zzf0_59 X f4 (by decide) (by decide) rfl (fun (x73 : Int32) h72 (h74 : 0 ≤ x73.toInt) (h75 : x73.toInt ≤ 8) => ?_)
    have ex73 : (z_Fv M0 4 3).toInt = x73.toInt := by rw [z_Fv.of h72]
    have h76 := z_b32 p2
    refine z_xJ zt37 4 rfl rfl (fun (h77 : p2.toInt < x73.toInt) => ?_) (fun (h77 : x73.toInt ≤ p2.toInt) => ?_)
    · skip
      refine z_xP zt37 6 17 [some (.ref 4), some (.int p2)] [.ref 4] rfl rfl ?_
      refine z_xgX (b := 10) zt37 7 rfl zo37 zzf0_18 X f4 (by decide) (by decide) rfl ?_
      refine z_xP zt37 8 21 [some (.ref 4), some (.int p2)] [.int p2, .ref 10] rfl rfl ?_
      have f10 : T[10]? = some (.inr (10, 2, 8, 9, 0)) := X.1.k rfl (by decide)
      refine z_xal zt37 9 rfl X f10 (by decide) (by decide) (by decide) (by omega) (by omega) (fun (a78 : Nat) h79 h80 => ?_) (fun h81 => absurd h81 (z_Gs (hG.go X (by decide)).2.1 h72 (by omega) (by omega)))
      obtain ⟨q82, t83, m84, k85⟩ : ∃ q t m, T[a78]? = some (.inl (3, q, t, m, 9)) := h80
      have g86 := X.1.p3 k85
      have hv : z_vW M0 p1 p2 := by unfold z_vW; omega
      obtain ⟨⟨hcp1, owp1, kwp1, fsp1, fcp1⟩, hAB, ⟨ob2, kb2, fN, hlz⟩, ⟨hsa, ksa, hSS⟩, hA, hm, hbk⟩ := hD hv
      obtain ⟨eq0, em0⟩ : q82 = q ∧ m84 = m := by
        have e := hAB.2.1
        rw [← show a78 = b from Option.some.inj (h79.symm.trans hAB.1), k85] at e
        cases e
        exact ⟨rfl, rfl⟩
      refine z_xgR (κ := .inl (2, q82, t83, m84, 0)) zt37 10 rfl zo37 zzf0_89 X k85 (by decide) (by decide) rfl (fun (a88 : Nat) h87 k89 => ?_)
      have g90 := X.1.p2 k89
      refine z_xra zt37 11 rfl zzr37 ?_
      show z_ev (d + 4) 103 5 [some (.ref 4), some (.int p2), some (.int p3), none] [.ref a88] M0 _
      refine z_xP zt103 2 10 [some (.ref 4), some (.int p2), some (.int p3), some (.ref a88)] [] rfl rfl ?_
      refine z_xP zt103 3 12 [some (.ref 4), some (.int p2), some (.int p3), some (.ref a88)] [.int 1, .int p3] rfl rfl ?_
      refine z_xJ zt103 4 rfl rfl (fun (h91 : p3.toInt < 1) => ?_) (fun (h91 : 1 ≤ p3.toInt) => ?_)
      · skip
        refine z_xP zt103 7 21 [some (.ref 4), some (.int p2), some (.int p3), some (.ref a88)] [.int (-1)] rfl rfl ?_
        refine z_xri zt103 8 rfl zzr103 ?_
        show z_ev (d + 5) 106 28 [some (.ref 4), some (.int p1), some (.int p2), some (.int p3), some (.int p4), some (.ref a8), none] [.int (-1)] M0 _
        refine z_xP zt106 10 32 [some (.ref 4), some (.int p1), some (.int p2), some (.int p3), some (.int p4), some (.ref a8), some (.int (-1))] [.int (-1)] rfl rfl ?_
        refine z_xZ zt106 11 rfl rfl (fun (h92 : ((-1) : Int) = 0) => absurd h92 (by omega)) (fun (h92 : ((-1) : Int) ≠ 0) => ?_)
        refine z_xP zt106 12 37 [some (.ref 4), some (.int p1), some (.int p2), some (.int p3), some (.int p4), some (.ref a8), some (.int (-1))] [.int (-1)] rfl rfl ?_
        have qm1 : (((-1) : Int32)).toInt = (-1) := rfl
        exact z_xri zt106 13 rfl zzr106 (kk (-1) M0 X (Or.inl ⟨rfl, by unfold z_vW; omega⟩))
      refine z_xP zt103 5 17 [some (.ref 4), some (.int p2), some (.int p3), some (.ref a88)] [.int 5, .int p3] rfl rfl ?_
      refine z_xJ zt103 6 rfl rfl (fun (h93 : p3.toInt ≤ 5) => ?_) (fun (h93 : 5 < p3.toInt) => ?_)
      · skip
        refine z_xP zt103 9 23 [some (.ref 4), some (.int p2), some (.int p3), some (.ref a88)] [.ref a88] rfl rfl ?_
        refine z_xgR (κ := .inr (102, 0, m84, 0, 1023)) zt103 10 rfl zo103 zzf0_74 X k89 (by decide) (by decide) rfl (fun (a95 : Nat) h94 k96 => ?_)
        refine z_xln zt103 11 rfl X k96 (by decide) (by omega) (fun (x97 : Int32) (h98 : x97.toInt = ((m84 : Nat) : Int)) => ?_)
        refine z_xP zt103 12 29 [some (.ref 4), some (.int p2), some (.int p3), some (.ref a88)] [.int 12, .int x97] rfl rfl ?_
        refine z_xJ zt103 13 rfl rfl (fun (h99 : x97.toInt ≤ 12) => ?_) (fun (h99 : 12 < x97.toInt) => ?_)
        · skip
          refine z_xP zt103 15 38 [some (.ref 4), some (.int p2), some (.int p3), some (.ref a88)] [.int 0] rfl rfl ?_
          refine z_xri zt103 16 rfl zzr103 ?_
          show z_ev (d + 5) 106 28 [some (.ref 4), some (.int p1), some (.int p2), some (.int p3), some (.int p4), some (.ref a8), none] [.int 0] M0 _
          refine z_xP zt106 10 32 [some (.ref 4), some (.int p1), some (.int p2), some (.int p3), some (.int p4), some (.ref a8), some (.int 0)] [.int 0] rfl rfl ?_
          refine z_xZ zt106 11 rfl rfl (fun (h100 : (0 : Int) = 0) => ?_) (fun (h100 : (0 : Int) ≠ 0) => absurd h100 (by omega))
          refine z_xP zt106 14 41 [some (.ref 4), some (.int p1), some (.int p2), some (.int p3), some (.int p4), some (.ref a8), some (.int 0)] [.ref 4, .ref a8] rfl rfl ?_
          refine z_xgX (b := 11) zt106 15 rfl zo106 zzf0_22 X f4 (by decide) (by decide) rfl ?_
          refine z_xP zt106 16 45 [some (.ref 4), some (.int p1), some (.int p2), some (.int p3), some (.int p4), some (.ref a8), some (.int 0)] [.int p2, .ref 11, .ref a8] rfl rfl ?_
          have f11 : T[11]? = some (.inr (11, 2, 8, 5, 0)) := X.1.k rfl (by decide)
          refine z_xal zt106 17 rfl X f11 (by decide) (by decide) (by decide) (by omega) (by omega) (fun (a101 : Nat) h102 h103 => ?_) (fun h104 => absurd h104 (z_Gt (hG.go X (by decide)).2.1 h72 (by omega) (by omega)))
          obtain ⟨q105, t106, m107, k108⟩ : ∃ q t m, T[a101]? = some (.inl (3, q, t, m, 5)) := h103
          have g109 := X.1.p3 k108
          have h110 := z_Gm (hG.go X (by decide)).2.2 X.1 (z_cll (n := 8) (by omega) (by decide)) h79 h102 k85 k108
          refine z_xP zt106 18 50 [some (.ref 4), some (.int p1), some (.int p2), some (.int p3), some (.int p4), some (.ref a8), some (.int 0)] [.int 1, .int p4, .int p3, .ref a101, .ref a8] rfl rfl ?_
          refine z_xJ zt106 19 rfl rfl (fun (h111 : p4.toInt ≠ 1) => absurd h111 (by omega)) (fun (h111 : p4.toInt = 1) => ?_)
          refine z_xP zt106 20 58 [some (.ref 4), some (.int p1), some (.int p2), some (.int p3), some (.int p4), some (.ref a8), some (.int 0)] [.int 1, .int p3, .ref a101, .ref a8] rfl rfl ?_
          refine z_xcV (vs := [.ref a8, .ref a101, .int p3, .int 1]) (r := []) (L2 := [some (.ref a8), some (.ref a101), some (.int p3), some (.int 1), none, none, none]) zt106 22 rfl zo106 zzcV0_248 (Or.inr rfl) rfl X k14 (z_w8 (fun c => (([(4, 107), (10, 107), (7, 107), (5, 107), (11, 107), (8, 107), (6, 107), (9, 107)] : List (Nat × Nat)).find? fun t => t.1 == c) = some (c, 107)) rfl rfl rfl rfl rfl rfl rfl rfl w13) rfl rfl (Nat.le_of_ble_eq_true rfl) zzm107 (Nat.le_of_ble_eq_true rfl) rfl ?_
          have q1 : ((1 : Int32)).toInt = 1 := rfl
          have q1 : ((1 : Int32)).toInt = 1 := rfl
          have ea8 : a8 = w := Option.some.inj (h9.symm.trans owp1)
          have ea101 : a101 = b2 := Option.some.inj (h102.symm.trans ob2)
          refine zUC107 X.1 hcp1 (by rw [ea8]; exact kwp1) (by rw [ea101]; exact kb2) (by omega) (by decide) hbk (by rw [ea101]; exact fN) hAB.2.2.2.1 hsa ksa hSS hA (by rw [ea101]; exact hlz) hch ⟨hAB.2.2.2.2.2.2.1.2, hAB.2.2.2.2.2.2.2.1.2⟩ (by rw [ea8]; exact fsp1) (by rw [ea8]; exact fcp1) ⟨hm.1, by omega⟩ (fun x114 M112 X113 hka _ => ?_)
          have X115 := X.go X113 (z_sb (by decide))
          show z_ev (d + 5) 106 61 [some (.ref 4), some (.int p1), some (.int p2), some (.int p3), some (.int p4), some (.ref a8), some (.int 0)] [.int x114] M112 _
          exact z_xri zt106 23 rfl zzr106 (kk x114 M112 X115 (Or.inr ⟨⟨hv, by omega⟩, Or.inr ⟨by omega, by rw [h67]; exact hka⟩⟩))
        refine z_xP zt103 14 38 [some (.ref 4), some (.int p2), some (.int p3), some (.ref a88)] [.int (-4)] rfl rfl ?_
        refine z_xri zt103 16 rfl zzr103 ?_
        show z_ev (d + 5) 106 28 [some (.ref 4), some (.int p1), some (.int p2), some (.int p3), some (.int p4), some (.ref a8), none] [.int (-4)] M0 _
        refine z_xP zt106 10 32 [some (.ref 4), some (.int p1), some (.int p2), some (.int p3), some (.int p4), some (.ref a8), some (.int (-4))] [.int (-4)] rfl rfl ?_
        refine z_xZ zt106 11 rfl rfl (fun (h117 : ((-4) : Int) = 0) => absurd h117 (by omega)) (fun (h117 : ((-4) : Int) ≠ 0) => ?_)
        refine z_xP zt106 12 37 [some (.ref 4), some (.int p1), some (.int p2), some (.int p3), some (.int p4), some (.ref a8), some (.int (-4))] [.int (-4)] rfl rfl ?_
        have qm4 : (((-4) : Int32)).toInt = (-4) := rfl
        exact z_xri zt106 13 rfl zzr106 (kk (-4) M0 X (Or.inr ⟨⟨hv, by omega⟩, Or.inl ⟨rfl, by omega⟩⟩))
      refine z_xP zt103 7 21 [some (.ref 4), some (.int p2), some (.int p3), some (.ref a88)] [.int (-1)] rfl rfl ?_
      refine z_xri zt103 8 rfl zzr103 ?_
      show z_ev (d + 5) 106 28 [some (.ref 4), some (.int p1), some (.int p2), some (.int p3), some (.int p4), some (.ref a8), none] [.int (-1)] M0 _
      refine z_xP zt106 10 32 [some (.ref 4), some (.int p1), some (.int p2), some (.int p3), some (.int p4), some (.ref a8), some (.int (-1))] [.int (-1)] rfl rfl ?_
      refine z_xZ zt106 11 rfl rfl (fun (h118 : ((-1) : Int) = 0) => absurd h118 (by omega)) (fun (h118 : ((-1) : Int) ≠ 0) => ?_)
      refine z_xP zt106 12 37 [some (.ref 4), some (.int p1), some (.int p2), some (.int p3), some (.int p4), some (.ref a8), some (.int (-1))] [.int (-1)] rfl rfl ?_
      have qm1 : (((-1) : Int32)).toInt = (-1) := rfl
      exact z_xri zt106 13 rfl zzr106 (kk (-1) M0 X (Or.inl ⟨rfl, by unfold z_vW; omega⟩))
    refine z_xP zt37 5 25 [some (.ref 4), some (.int p2)] [.null] rfl rfl ?_
    refine z_xrn zt37 11 rfl zzr37 ?_
    show z_ev (d + 4) 103 5 [some (.ref 4), some (.int p2), some (.int p3), none] [.null] M0 _
    refine z_xP zt103 2 20 [some (.ref 4), some (.int p2), some (.int p3), some (.null)] [] rfl rfl ?_
    refine z_xP zt103 7 21 [some (.ref 4), some (.int p2), some (.int p3), some (.null)] [.int (-1)] rfl rfl ?_
    refine z_xri zt103 8 rfl zzr103 ?_
    show z_ev (d + 5) 106 28 [some (.ref 4), some (.int p1), some (.int p2), some (.int p3), some (.int p4), some (.ref a8), none] [.int (-1)] M0 _
    refine z_xP zt106 10 32 [some (.ref 4), some (.int p1), some (.int p2), some (.int p3), some (.int p4), some (.ref a8), some (.int (-1))] [.int (-1)] rfl rfl ?_
    refine z_xZ zt106 11 rfl rfl (fun (h119 : ((-1) : Int) = 0) => absurd h119 (by omega)) (fun (h119 : ((-1) : Int) ≠ 0) => ?_)
    refine z_xP zt106 12 37 [some (.ref 4), some (.int p1), some (.int p2), some (.int p3), some (.int p4), some (.ref a8), some (.int (-1))] [.int (-1)] rfl rfl ?_
    have qm1 : (((-1) : Int32)).toInt = (-1) := rfl
    exact z_xri zt106 13 rfl zzr106 (kk (-1) M0 X (Or.inl ⟨rfl, by unfold z_vW; omega⟩))
  refine z_xP zt84 5 22 [some (.ref 4), some (.int p1)] [.null] rfl rfl ?_
  refine z_xrn zt84 10 rfl zzr84 ?_
  show z_ev (d + 5) 106 5 [some (.ref 4), some (.int p1), some (.int p2), some (.int p3), some (.int p4), none, none] [.null] M0 _
  refine z_xP zt106 2 20 [some (.ref 4), some (.int p1), some (.int p2), some (.int p3), some (.int p4), some (.null), none] [] rfl rfl ?_
  refine z_xP zt106 6 21 [some (.ref 4), some (.int p1), some (.int p2), some (.int p3), some (.int p4), some (.null), none] [.int (-1)] rfl rfl ?_
  have qm1 : (((-1) : Int32)).toInt = (-1) := rfl
  exact z_xri zt106 7 rfl zzr106 (kk (-1) M0 X (Or.inl ⟨rfl, by unfold z_vW; omega⟩))
