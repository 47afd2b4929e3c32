/-! over all benches, the calls of the class -/
def z_vW (M : zH) (p1 p2 : Int32) : Prop := (0 ≤ p1.toInt ∧ p1.toInt < (z_Fv M 4 5).toInt) ∧ (0 ≤ p2.toInt ∧ p2.toInt < (z_Fv M 4 3).toInt)
/-- a way of the class -/
def z_wyK (T : List zK) (M : zH) (p : Int32) (w c : Nat) (sh ch : Int32) : Prop := (4 ≤ c ∧ c ≤ 11) ∧ z_O M 12 p.toNatClampNeg = some w ∧ T[w]? = some (.inl (c, 0, 0, 0, 0)) ∧ z_F M w 1 = some (.int sh) ∧ z_F M w 2 = some (.int ch)
/-- an agenda of the class and its trial bench, as all benches ask it -/
def z_ag (T : List zK) (M : zH) (p : Int32) (b b2 N sa q t m pr en : Nat) (B : Nat → Nat) (S : Nat → Int32) (A : Int32) : Prop := z_AB T M p.toNatClampNeg b N q t m pr en B ∧ (z_O M 11 p.toNatClampNeg = some b2 ∧ T[b2]? = some (.inl (3, q, t, m, 5)) ∧ z_F M b2 0 = some (.ref N) ∧ z_lz M b2) ∧ (z_F M N 5 = some (.ref sa) ∧ T[sa]? = some (.inr (102, 0, m, 0, 1023)) ∧ ∀ k, k < m → z_Ar M sa k = S k) ∧ A.toInt = ((2 ^ q : Nat) : Int) - 1 ∧ (1 ≤ m ∧ m = z_lc B (2 ^ q)) ∧ z_blk T M
theorem z_agX {T : List zK} {M : zH} {V p : Int32} (hW : z_W M T) (hR : z_RR T M) (h9 : z_R89 T M) (hG : z_GG T M) (hV : z_F M 4 3 = some (.int V)) (hp : 0 ≤ p.toInt ∧ p.toInt < V.toInt) (V8 : V.toInt ≤ 8) : ∃ (b b2 N sa q t m pr en : Nat) (B : Nat → Nat) (S : Nat → Int32) (A : Int32), z_ag T M p b b2 N sa q t m pr en B S A := by
  obtain ⟨b, N, q, t, m, pr, en, B, hAB⟩ := hR.2.1 V hV p.toNatClampNeg (z_pc hp)
  have kb := hAB.2.1
  have g := hW.p3 kb
  have hp8 : p.toNatClampNeg < 8 := by
    show p.toInt.toNat < 8
    omega
  obtain ⟨f, e1, e2, e3⟩ := hW.aa (hW.k (k := 11) (κ := .inr (11, 2, 8, 5, 0)) rfl (by decide)) (by decide) (by decide)
  match hb : z_O M 11 p.toNatClampNeg with
  | none => exact absurd hb (hG.2.1.1 V hV p hp.1 hp.2).2
  | some b2 =>
    obtain ⟨q2, t2, m2, kb2⟩ : ∃ q t m, T[b2]? = some (.inl (3, q, t, m, 5)) := e3 p.toNatClampNeg b2 hp8 (by rw [← e2]; exact hb)
    obtain ⟨rfl, rfl, rfl⟩ := z_Gm hG.2.2 hW hp8 hAB.1 hb kb kb2
    have f0 := (hG.2.2 p.toNatClampNeg b b2 hp8 hAB.1 hb).symm.trans hAB.2.2.1
    obtain ⟨_, _, hm, _, _, _, ⟨sa, f5, ksa, _⟩, _⟩ := id hAB.2.2.2.1
    have hA : (Int32.ofNat (2 ^ q - 1)).toInt = ((2 ^ q : Nat) : Int) - 1 := by
      have hP : 2 ^ q ≤ 1024 := Nat.pow_le_pow_right (n := 2) (j := 10) (by decide) (by omega)
      have hP1 : 0 < 2 ^ q := Nat.two_pow_pos q
      rw [Int32.toInt_ofNat_of_lt (by omega)]
      omega
    exact ⟨b, b2, N, sa, q, t, m, pr, en, B, z_Ar M sa, Int32.ofNat (2 ^ q - 1), hAB, ⟨hb, kb2, f0, h9.2 b2 q t m kb2⟩, ⟨f5, ksa, fun _ _ => rfl⟩, hA, ⟨by omega, hm⟩, hR.2.2.1⟩
theorem z_wyX {T TA : List zK} {M : zH} {V p : Int32} (hWA : z_W M TA) (hW : z_W M T) (h1 : z_Rw1 TA M) (hV : z_F M 4 5 = some (.int V)) (hp : 0 ≤ p.toInt ∧ p.toInt < V.toInt) (hG : z_GG T M) (V20 : V.toInt ≤ 20) : ∃ (w c : Nat) (sh ch : Int32), z_wyK T M p w c sh ch ∧ (z_Ar M 36 p.toNatClampNeg).toInt + 4 = (c : Int) ∧ sh = z_Ar M 37 p.toNatClampNeg ∧ ch = z_Ar M 38 p.toNatClampNeg := by
  have hp20 : p.toNatClampNeg < 20 := by
    show p.toInt.toNat < 20
    omega
  obtain ⟨f, e1, e2, e3⟩ := hW.aa (hW.k (k := 12) (κ := .inr (12, 3, 20, 0, 0)) rfl (by decide)) (by decide) (by decide)
  match hb : z_O M 12 p.toNatClampNeg with
  | none => exact absurd hb (hG.2.1.2 V hV p hp.1 hp.2)
  | some w =>
    obtain ⟨c, c4, c11, kw⟩ : ∃ ci, 4 ≤ ci ∧ ci ≤ 11 ∧ T[w]? = some (.inl (ci, 0, 0, 0, 0)) := e3 p.toNatClampNeg w hp20 (by rw [← e2]; exact hb)
    obtain ⟨sh, f1, _, _⟩ := z_W.fi hW kw (k := 1) (lo := 0) (hi := 9) (z_nf8 ⟨c4, c11⟩ (by decide)) (z_fs8 ⟨c4, c11⟩)
    obtain ⟨ch, f2, _, _⟩ := z_W.fi hW kw (k := 2) (lo := 0) (hi := 8) (z_nf8 ⟨c4, c11⟩ (by decide)) (z_fs8 ⟨c4, c11⟩)
    obtain ⟨hc, g36, g37, g38⟩ := z_wayof hWA hW h1 hV hp hb kw f1 f2
    exact ⟨w, c, sh, ch, ⟨hc, hb, kw, f1, f2⟩, g36, g37, g38⟩
theorem zUC114 {T : List zK} {d : Nat} {K : Option Value → zH → Prop} {p1 : Int32} {p2 : Int32} {p3 : Int32} {p4 : Int32} {M0 : zH} (hW : z_W M0 T) (hG : z_GG T M0) (hch : z_chO M0) {w cw b b2 NN sa q t m pr en : Nat} {B : Nat → Nat} {S : Nat → Int32} {A sh ch : Int32} (hD : z_vW M0 p1 p2 → z_wyK T M0 p1 w cw sh ch ∧ z_ag T M0 p2 b b2 NN sa q t m pr en B S A) (kk : ∀ (x : Int32) (M1 : zH), z_X T zw114 M0 M1 → z_aA (z_vW M0 p1 p2) ((1 ≤ p3.toInt ∧ p3.toInt ≤ 5) ∧ 0 ≤ p4.toInt ∧ p4.toInt < (q : Int)) m (z_kA (z_pYe cw B q pr en sh.toInt.toNat ch.toInt.toNat m p3.toInt.toNat S A p4.toInt.toNat) (fun _ => 0) (z_T m p3.toInt.toNat) 0 x.toInt) x.toInt → K (some (.int x)) M1) : z_ev (d + 5) 114 0 [some (.ref 4), some (.int p1), some (.int p2), some (.int p3), some (.int p4), none, none, none] [] M0 K := by
  have X : z_X T zw114 M0 M0 := .refl hW
  refine z_xP zt114 0 2 [some (.ref 4), some (.int p1), some (.int p2), some (.int p3), some (.int p4), none, none, none] [.int p1, .ref 4] rfl rfl ?_
  have f4 : T[4]? = some (.inl (0, 0, 0, 0, 0)) := X.1.k rfl (by decide)
  refine z_xcV (vs := [.ref 4, .int p1]) (r := []) (L2 := [some (.ref 4), some (.int p1)]) zt114 1 rfl zo114 zzcV0_221 (Or.inl rfl) rfl X f4 rfl rfl rfl (Nat.le_of_ble_eq_true rfl) zzm84 (Nat.le_of_ble_eq_true rfl) rfl ?_
  refine z_xP zt84 0 1 [some (.ref 4), some (.int p1)] [.int p1] rfl rfl ?_
  refine z_xZ zt84 1 rfl rfl (fun (h1 : p1.toInt < 0) => ?_) (fun (h1 : 0 ≤ p1.toInt) => ?_)
  · skip
    refine z_xP zt84 5 22 [some (.ref 4), some (.int p1)] [.null] rfl rfl ?_
    refine z_xrn zt84 10 rfl zzr84 ?_
    show z_ev (d + 5) 114 5 [some (.ref 4), some (.int p1), some (.int p2), some (.int p3), some (.int p4), none, none, none] [.null] M0 _
    refine z_xP zt114 2 9 [some (.ref 4), some (.int p1), some (.int p2), some (.int p3), some (.int p4), some (.null), none, none] [.int p2, .ref 4] rfl rfl ?_
    refine z_xcV (vs := [.ref 4, .int p2]) (r := []) (L2 := [some (.ref 4), some (.int p2)]) zt114 3 rfl zo114 zzcV0_108 (Or.inl rfl) rfl X f4 rfl rfl rfl (Nat.le_of_ble_eq_true rfl) zzm37 (Nat.le_of_ble_eq_true rfl) rfl ?_
    refine z_xP zt37 0 1 [some (.ref 4), some (.int p2)] [.int p2] rfl rfl ?_
    refine z_xZ zt37 1 rfl rfl (fun (h2 : p2.toInt < 0) => ?_) (fun (h2 : 0 ≤ p2.toInt) => ?_)
    · skip
      refine z_xP zt37 5 25 [some (.ref 4), some (.int p2)] [.null] rfl rfl ?_
      refine z_xrn zt37 11 rfl zzr37 ?_
      show z_ev (d + 5) 114 12 [some (.ref 4), some (.int p1), some (.int p2), some (.int p3), some (.int p4), some (.null), none, none] [.null] M0 _
      refine z_xP zt114 4 34 [some (.ref 4), some (.int p1), some (.int p2), some (.int p3), some (.int p4), some (.null), some (.null), none] [] rfl rfl ?_
      refine z_xP zt114 9 35 [some (.ref 4), some (.int p1), some (.int p2), some (.int p3), some (.int p4), some (.null), some (.null), none] [.int (-1)] rfl rfl ?_
      have qm1 : (((-1) : Int32)).toInt = (-1) := rfl
      exact z_xri zt114 10 rfl zzr114 (kk (-1) M0 X (Or.inl ⟨rfl, by unfold z_vW; omega⟩))
    refine z_xP zt37 2 6 [some (.ref 4), some (.int p2)] [.ref 4, .int p2] rfl rfl ?_
    refine z_xgI zt37 3 rfl zo37 zzf0_59 X f4 (by decide) (by decide) rfl (fun (x4 : Int32) h3 (h5 : 0 ≤ x4.toInt) (h6 : x4.toInt ≤ 8) => ?_)
    have ex4 : (z_Fv M0 4 3).toInt = x4.toInt := by rw [z_Fv.of h3]
    have h7 := z_b32 p2
    refine z_xJ zt37 4 rfl rfl (fun (h8 : p2.toInt < x4.toInt) => ?_) (fun (h8 : x4.toInt ≤ p2.toInt) => ?_)
    · skip
      refine z_xP zt37 6 17 [some (.ref 4), some (.int p2)] [.ref 4] rfl rfl ?_
      refine z_xgX (b := 10) zt37 7 rfl zo37 zzf0_18 X f4 (by decide) (by decide) rfl ?_
      refine z_xP zt37 8 21 [some (.ref 4), some (.int p2)] [.int p2, .ref 10] rfl rfl ?_
      have f10 : T[10]? = some (.inr (10, 2, 8, 9, 0)) := X.1.k rfl (by decide)
      refine z_xal zt37 9 rfl X f10 (by decide) (by decide) (by decide) (by omega) (by omega) (fun (a9 : Nat) h10 h11 => ?_) (fun h12 => absurd h12 (z_Gs (hG.go X (by decide)).2.1 h3 (by omega) (by omega)))
      obtain ⟨q13, t14, m15, k16⟩ : ∃ q t m, T[a9]? = some (.inl (3, q, t, m, 9)) := h11
      have g17 := X.1.p3 k16
      refine z_xgR (κ := .inl (2, q13, t14, m15, 0)) zt37 10 rfl zo37 zzf0_89 X k16 (by decide) (by decide) rfl (fun (a19 : Nat) h18 k20 => ?_)
      have g21 := X.1.p2 k20
      refine z_xra zt37 11 rfl zzr37 ?_
      show z_ev (d + 5) 114 12 [some (.ref 4), some (.int p1), some (.int p2), some (.int p3), some (.int p4), some (.null), none, none] [.ref a19] M0 _
      refine z_xP zt114 4 34 [some (.ref 4), some (.int p1), some (.int p2), some (.int p3), some (.int p4), some (.null), some (.ref a19), none] [] rfl rfl ?_
      refine z_xP zt114 9 35 [some (.ref 4), some (.int p1), some (.int p2), some (.int p3), some (.int p4), some (.null), some (.ref a19), none] [.int (-1)] rfl rfl ?_
      have qm1 : (((-1) : Int32)).toInt = (-1) := rfl
      exact z_xri zt114 10 rfl zzr114 (kk (-1) M0 X (Or.inl ⟨rfl, by unfold z_vW; omega⟩))
    refine z_xP zt37 5 25 [some (.ref 4), some (.int p2)] [.null] rfl rfl ?_
    refine z_xrn zt37 11 rfl zzr37 ?_
    show z_ev (d + 5) 114 12 [some (.ref 4), some (.int p1), some (.int p2), some (.int p3), some (.int p4), some (.null), none, none] [.null] M0 _
    refine z_xP zt114 4 34 [some (.ref 4), some (.int p1), some (.int p2), some (.int p3), some (.int p4), some (.null), some (.null), none] [] rfl rfl ?_
    refine z_xP zt114 9 35 [some (.ref 4), some (.int p1), some (.int p2), some (.int p3), some (.int p4), some (.null), some (.null), none] [.int (-1)] rfl rfl ?_
    have qm1 : (((-1) : Int32)).toInt = (-1) := rfl
    exact z_xri zt114 10 rfl zzr114 (kk (-1) M0 X (Or.inl ⟨rfl, by unfold z_vW; omega⟩))
  refine z_xP zt84 2 6 [some (.ref 4), some (.int p1)] [.ref 4, .int p1] rfl rfl ?_
  refine z_xgI zt84 3 rfl zo84 zzf0_188 X f4 (by decide) (by decide) rfl (fun (x23 : Int32) h22 (h24 : 0 ≤ x23.toInt) (h25 : x23.toInt ≤ 20) => ?_)
  have ex23 : (z_Fv M0 4 5).toInt = x23.toInt := by rw [z_Fv.of h22]
  have h26 := z_b32 p1
  refine z_xJ zt84 4 rfl rfl (fun (h27 : p1.toInt < x23.toInt) => ?_) (fun (h27 : x23.toInt ≤ p1.toInt) => ?_)
  · skip
    refine z_xP zt84 6 17 [some (.ref 4), some (.int p1)] [.ref 4] rfl rfl ?_
    refine z_xgX (b := 12) zt84 7 rfl zo84 zzf0_27 X f4 (by decide) (by decide) rfl ?_
    refine z_xP zt84 8 21 [some (.ref 4), some (.int p1)] [.int p1, .ref 12] rfl rfl ?_
    have f12 : T[12]? = some (.inr (12, 3, 20, 0, 0)) := X.1.k rfl (by decide)
    refine z_xal zt84 9 rfl X f12 (by decide) (by decide) (by decide) (by omega) (by omega) (fun (a28 : Nat) h29 h30 => ?_) (fun h31 => absurd h31 (z_Gb (hG.go X (by decide)).2.1 h22 (by omega) (by omega)))
    obtain ⟨c32, w33l, w33u, k34⟩ : ∃ ci, 4 ≤ ci ∧ ci ≤ 11 ∧ T[a28]? = some (.inl (ci, 0, 0, 0, 0)) := h30
    have w33 := And.intro w33l w33u
    refine z_xra zt84 10 rfl zzr84 ?_
    show z_ev (d + 5) 114 5 [some (.ref 4), some (.int p1), some (.int p2), some (.int p3), some (.int p4), none, none, none] [.ref a28] M0 _
    refine z_xP zt114 2 9 [some (.ref 4), some (.int p1), some (.int p2), some (.int p3), some (.int p4), some (.ref a28), none, none] [.int p2, .ref 4] rfl rfl ?_
    refine z_xcV (vs := [.ref 4, .int p2]) (r := []) (L2 := [some (.ref 4), some (.int p2)]) zt114 3 rfl zo114 zzcV0_108 (Or.inl rfl) rfl X f4 rfl rfl rfl (Nat.le_of_ble_eq_true rfl) zzm37 (Nat.le_of_ble_eq_true rfl) rfl ?_
    refine z_xP zt37 0 1 [some (.ref 4), some (.int p2)] [.int p2] rfl rfl ?_
    refine z_xZ zt37 1 rfl rfl (fun (h35 : p2.toInt < 0) => ?_) (fun (h35 : 0 ≤ p2.toInt) => ?_)
    · skip
      refine z_xP zt37 5 25 [some (.ref 4), some (.int p2)] [.null] rfl rfl ?_
      refine z_xrn zt37 11 rfl zzr37 ?_
      show z_ev (d + 5) 114 12 [some (.ref 4), some (.int p1), some (.int p2), some (.int p3), some (.int p4), some (.ref a28), none, none] [.null] M0 _
      refine z_xP zt114 4 19 [some (.ref 4), some (.int p1), some (.int p2), some (.int p3), some (.int p4), some (.ref a28), some (.null), none] [] rfl rfl ?_
      refine z_xP zt114 5 34 [some (.ref 4), some (.int p1), some (.int p2), some (.int p3), some (.int p4), some (.ref a28), some (.null), none] [] rfl rfl ?_
      refine z_xP zt114 9 35 [some (.ref 4), some (.int p1), some (.int p2), some (.int p3), some (.int p4), some (.ref a28), some (.null), none] [.int (-1)] rfl rfl ?_
      have qm1 : (((-1) : Int32)).toInt = (-1) := rfl
      exact z_xri zt114 10 rfl zzr114 (kk (-1) M0 X (Or.inl ⟨rfl, by unfold z_vW; omega⟩))
    refine z_xP zt37 2 6 [some (.ref 4), some (.int p2)] [.ref 4, .int p2] rfl rfl ?_
    refine z_xgI zt37 3 rfl zo37 zzf0_59 X f4 (by decide) (by decide) rfl (fun (x37 : Int32) h36 (h38 : 0 ≤ x37.toInt) (h39 : x37.toInt ≤ 8) => ?_)
    have ex37 : (z_Fv M0 4 3).toInt = x37.toInt := by rw [z_Fv.of h36]
    have h40 := z_b32 p2
    refine z_xJ zt37 4 rfl rfl (fun (h41 : p2.toInt < x37.toInt) => ?_) (fun (h41 : x37.toInt ≤ p2.toInt) => ?_)
    · skip
      refine z_xP zt37 6 17 [some (.ref 4), some (.int p2)] [.ref 4] rfl rfl ?_
      refine z_xgX (b := 10) zt37 7 rfl zo37 zzf0_18 X f4 (by decide) (by decide) rfl ?_
      refine z_xP zt37 8 21 [some (.ref 4), some (.int p2)] [.int p2, .ref 10] rfl rfl ?_
      have f10 : T[10]? = some (.inr (10, 2, 8, 9, 0)) := X.1.k rfl (by decide)
      refine z_xal zt37 9 rfl X f10 (by decide) (by decide) (by decide) (by omega) (by omega) (fun (a42 : Nat) h43 h44 => ?_) (fun h45 => absurd h45 (z_Gs (hG.go X (by decide)).2.1 h36 (by omega) (by omega)))
      obtain ⟨q46, t47, m48, k49⟩ : ∃ q t m, T[a42]? = some (.inl (3, q, t, m, 9)) := h44
      have g50 := X.1.p3 k49
      have hv : z_vW M0 p1 p2 := by unfold z_vW; omega
      obtain ⟨⟨hcp1, owp1, kwp1, fsp1, fcp1⟩, hAB, ⟨ob2, kb2, fN, hlz⟩, ⟨hsa, ksa, hSS⟩, hA, hm, hbk⟩ := hD hv
      obtain ⟨eq0, em0⟩ : q46 = q ∧ m48 = m := by
        have e := hAB.2.1
        rw [← show a42 = b from Option.some.inj (h43.symm.trans hAB.1), k49] at e
        cases e
        exact ⟨rfl, rfl⟩
      refine z_xgR (κ := .inl (2, q46, t47, m48, 0)) zt37 10 rfl zo37 zzf0_89 X k49 (by decide) (by decide) rfl (fun (a52 : Nat) h51 k53 => ?_)
      have g54 := X.1.p2 k53
      refine z_xra zt37 11 rfl zzr37 ?_
      show z_ev (d + 5) 114 12 [some (.ref 4), some (.int p1), some (.int p2), some (.int p3), some (.int p4), some (.ref a28), none, none] [.ref a52] M0 _
      refine z_xP zt114 4 19 [some (.ref 4), some (.int p1), some (.int p2), some (.int p3), some (.int p4), some (.ref a28), some (.ref a52), none] [] rfl rfl ?_
      refine z_xP zt114 5 24 [some (.ref 4), some (.int p1), some (.int p2), some (.int p3), some (.int p4), some (.ref a28), some (.ref a52), none] [] rfl rfl ?_
      refine z_xP zt114 6 28 [some (.ref 4), some (.int p1), some (.int p2), some (.int p3), some (.int p4), some (.ref a28), some (.ref a52), none] [.int p4, .ref a52] rfl rfl ?_
      refine z_xcV (vs := [.ref a52, .int p4]) (r := []) (L2 := [some (.ref a52), some (.int p4)]) zt114 7 rfl zo114 zzcV0_129 (Or.inl rfl) rfl X k53 rfl rfl rfl (Nat.le_of_ble_eq_true rfl) zzm48 (Nat.le_of_ble_eq_true rfl) rfl ?_
      refine z_xP zt48 0 1 [some (.ref a52), some (.int p4)] [.int p4] rfl rfl ?_
      refine z_xZ zt48 1 rfl rfl (fun (h55 : p4.toInt < 0) => ?_) (fun (h55 : 0 ≤ p4.toInt) => ?_)
      · skip
        refine z_xP zt48 6 17 [some (.ref a52), some (.int p4)] [.int 0] rfl rfl ?_
        refine z_xrz zt48 7 rfl zzr48 (by decide) (by decide) ?_
        show z_ev (d + 5) 114 31 [some (.ref 4), some (.int p1), some (.int p2), some (.int p3), some (.int p4), some (.ref a28), some (.ref a52), none] [.int 0] M0 _
        refine z_xZ zt114 8 rfl rfl (fun (h56 : (0 : Int) ≠ 0) => absurd h56 (by omega)) (fun (h56 : (0 : Int) = 0) => ?_)
        refine z_xP zt114 9 35 [some (.ref 4), some (.int p1), some (.int p2), some (.int p3), some (.int p4), some (.ref a28), some (.ref a52), none] [.int (-1)] rfl rfl ?_
        have qm1 : (((-1) : Int32)).toInt = (-1) := rfl
        exact z_xri zt114 10 rfl zzr114 (kk (-1) M0 X (Or.inl ⟨rfl, by unfold z_vW; omega⟩))
      refine z_xP zt48 2 6 [some (.ref a52), some (.int p4)] [.ref a52, .int p4] rfl rfl ?_
      refine z_xgI zt48 3 rfl zo48 zzf2_15 X k53 (by decide) (by decide) rfl (fun (x58 : Int32) h57 (h59 : (q46 : Int) ≤ x58.toInt) (h60 : x58.toInt ≤ (q46 : Int)) => ?_)
      have h61 := z_b32 p4
      refine z_xJ zt48 4 rfl rfl (fun (h62 : x58.toInt ≤ p4.toInt) => ?_) (fun (h62 : p4.toInt < x58.toInt) => ?_)
      · skip
        refine z_xP zt48 6 17 [some (.ref a52), some (.int p4)] [.int 0] rfl rfl ?_
        refine z_xrz zt48 7 rfl zzr48 (by decide) (by decide) ?_
        show z_ev (d + 5) 114 31 [some (.ref 4), some (.int p1), some (.int p2), some (.int p3), some (.int p4), some (.ref a28), some (.ref a52), none] [.int 0] M0 _
        refine z_xZ zt114 8 rfl rfl (fun (h63 : (0 : Int) ≠ 0) => absurd h63 (by omega)) (fun (h63 : (0 : Int) = 0) => ?_)
        refine z_xP zt114 9 35 [some (.ref 4), some (.int p1), some (.int p2), some (.int p3), some (.int p4), some (.ref a28), some (.ref a52), none] [.int (-1)] rfl rfl ?_
        have qm1 : (((-1) : Int32)).toInt = (-1) := rfl
        exact z_xri zt114 10 rfl zzr114 (kk (-1) M0 X (Or.inl ⟨rfl, by unfold z_vW; omega⟩))
      refine z_xP zt48 5 17 [some (.ref a52), some (.int p4)] [.int 1] rfl rfl ?_
      refine z_xrz zt48 7 rfl zzr48 (by decide) (by decide) ?_
      show z_ev (d + 5) 114 31 [some (.ref 4), some (.int p1), some (.int p2), some (.int p3), some (.int p4), some (.ref a28), some (.ref a52), none] [.int 1] M0 _
      refine z_xZ zt114 8 rfl rfl (fun (h64 : (1 : Int) ≠ 0) => ?_) (fun (h64 : (1 : Int) = 0) => absurd h64 (by omega))
      refine z_xP zt114 11 39 [some (.ref 4), some (.int p1), some (.int p2), some (.int p3), some (.int p4), some (.ref a28), some (.ref a52), none] [.int p3, .int p2, .ref 4] rfl rfl ?_
      refine z_xcV (vs := [.ref 4, .int p2, .int p3]) (r := []) (L2 := [some (.ref 4), some (.int p2), some (.int p3), none]) zt114 12 rfl zo114 zzcV0_241 (Or.inl rfl) rfl X f4 rfl rfl rfl (Nat.le_of_ble_eq_true rfl) zzm103 (Nat.le_of_ble_eq_true rfl) rfl ?_
      refine z_xP zt103 0 2 [some (.ref 4), some (.int p2), some (.int p3), none] [.int p2, .ref 4] rfl rfl ?_
      refine z_xcV (vs := [.ref 4, .int p2]) (r := []) (L2 := [some (.ref 4), some (.int p2)]) zt103 1 rfl zo103 zzcV0_108 (Or.inl rfl) rfl X f4 rfl rfl rfl (Nat.le_of_ble_eq_true rfl) zzm37 (Nat.le_of_ble_eq_true rfl) rfl ?_
      refine z_xP zt37 0 1 [some (.ref 4), some (.int p2)] [.int p2] rfl rfl ?_
      refine z_xZ zt37 1 rfl rfl (fun (h65 : p2.toInt < 0) => absurd h65 (by omega)) (fun (h65 : 0 ≤ p2.toInt) => ?_)
      refine z_xP zt37 2 6 [some (.ref 4), some (.int p2)] [.ref 4, .int p2] rfl rfl ?_
      refine z_xgv zt37 3 rfl zo37 zzf0_59 X f4 (by decide) h36 ?_
      refine z_xJ zt37 4 rfl rfl (fun (h66 : p2.toInt < x37.toInt) => ?_) (fun (h66 : x37.toInt ≤ p2.toInt) => ?_)
      · skip
        refine z_xP zt37 6 17 [some (.ref 4), some (.int p2)] [.ref 4] rfl rfl ?_
        refine z_xgX (b := 10) zt37 7 rfl zo37 zzf0_18 X f4 (by decide) (by decide) rfl ?_
        refine z_xP zt37 8 21 [some (.ref 4), some (.int p2)] [.int p2, .ref 10] rfl rfl ?_
        refine z_xalv zt37 9 rfl X f10 (by decide) (by decide) (by decide) (by omega) (by omega) h43 ?_
        refine z_xgv zt37 10 rfl zo37 zzf0_89 X k49 (by decide) h51 ?_
        refine z_xra zt37 11 rfl zzr37 ?_
        show z_ev (d + 4) 103 5 [some (.ref 4), some (.int p2), some (.int p3), none] [.ref a52] M0 _
        refine z_xP zt103 2 10 [some (.ref 4), some (.int p2), some (.int p3), some (.ref a52)] [] rfl rfl ?_
        refine z_xP zt103 3 12 [some (.ref 4), some (.int p2), some (.int p3), some (.ref a52)] [.int 1, .int p3] rfl rfl ?_
        refine z_xJ zt103 4 rfl rfl (fun (h67 : p3.toInt < 1) => ?_) (fun (h67 : 1 ≤ p3.toInt) => ?_)
        · skip
          refine z_xP zt103 7 21 [some (.ref 4), some (.int p2), some (.int p3), some (.ref a52)] [.int (-1)] rfl rfl ?_
          refine z_xri zt103 8 rfl zzr103 ?_
          show z_ev (d + 5) 114 42 [some (.ref 4), some (.int p1), some (.int p2), some (.int p3), some (.int p4), some (.ref a28), some (.ref a52), none] [.int (-1)] M0 _
          refine z_xP zt114 13 46 [some (.ref 4), some (.int p1), some (.int p2), some (.int p3), some (.int p4), some (.ref a28), some (.ref a52), some (.int (-1))] [.int (-1)] rfl rfl ?_
          refine z_xZ zt114 14 rfl rfl (fun (h68 : ((-1) : Int) = 0) => absurd h68 (by omega)) (fun (h68 : ((-1) : Int) ≠ 0) => ?_)
          refine z_xP zt114 15 51 [some (.ref 4), some (.int p1), some (.int p2), some (.int p3), some (.int p4), some (.ref a28), some (.ref a52), some (.int (-1))] [.int (-1)] rfl rfl ?_
          have qm1 : (((-1) : Int32)).toInt = (-1) := rfl
          exact z_xri zt114 16 rfl zzr114 (kk (-1) M0 X (Or.inl ⟨rfl, by unfold z_vW; omega⟩))
        refine z_xP zt103 5 17 [some (.ref 4), some (.int p2), some (.int p3), some (.ref a52)] [.int 5, .int p3] rfl rfl ?_
        refine z_xJ zt103 6 rfl rfl (fun (h69 : p3.toInt ≤ 5) => ?_) (fun (h69 : 5 < p3.toInt) => ?_)
        · skip
          refine z_xP zt103 9 23 [some (.ref 4), some (.int p2), some (.int p3), some (.ref a52)] [.ref a52] rfl rfl ?_
          refine z_xgR (κ := .inr (102, 0, m48, 0, 1023)) zt103 10 rfl zo103 zzf0_74 X k53 (by decide) (by decide) rfl (fun (a71 : Nat) h70 k72 => ?_)
          refine z_xln zt103 11 rfl X k72 (by decide) (by omega) (fun (x73 : Int32) (h74 : x73.toInt = ((m48 : Nat) : Int)) => ?_)
          refine z_xP zt103 12 29 [some (.ref 4), some (.int p2), some (.int p3), some (.ref a52)] [.int 12, .int x73] rfl rfl ?_
          refine z_xJ zt103 13 rfl rfl (fun (h75 : x73.toInt ≤ 12) => ?_) (fun (h75 : 12 < x73.toInt) => ?_)
          · skip
            refine z_xP zt103 15 38 [some (.ref 4), some (.int p2), some (.int p3), some (.ref a52)] [.int 0] rfl rfl ?_
            refine z_xri zt103 16 rfl zzr103 ?_
            show z_ev (d + 5) 114 42 [some (.ref 4), some (.int p1), some (.int p2), some (.int p3), some (.int p4), some (.ref a28), some (.ref a52), none] [.int 0] M0 _
            refine z_xP zt114 13 46 [some (.ref 4), some (.int p1), some (.int p2), some (.int p3), some (.int p4), some (.ref a28), some (.ref a52), some (.int 0)] [.int 0] rfl rfl ?_
            refine z_xZ zt114 14 rfl rfl (fun (h76 : (0 : Int) = 0) => ?_) (fun (h76 : (0 : Int) ≠ 0) => absurd h76 (by omega))
            refine z_xP zt114 17 55 [some (.ref 4), some (.int p1), some (.int p2), some (.int p3), some (.int p4), some (.ref a28), some (.ref a52), some (.int 0)] [.ref 4, .ref a28] rfl rfl ?_
            refine z_xgX (b := 11) zt114 18 rfl zo114 zzf0_22 X f4 (by decide) (by decide) rfl ?_
            refine z_xP zt114 19 59 [some (.ref 4), some (.int p1), some (.int p2), some (.int p3), some (.int p4), some (.ref a28), some (.ref a52), some (.int 0)] [.int p2, .ref 11, .ref a28] rfl rfl ?_
            have f11 : T[11]? = some (.inr (11, 2, 8, 5, 0)) := X.1.k rfl (by decide)
            refine z_xal zt114 20 rfl X f11 (by decide) (by decide) (by decide) (by omega) (by omega) (fun (a77 : Nat) h78 h79 => ?_) (fun h80 => absurd h80 (z_Gt (hG.go X (by decide)).2.1 h36 (by omega) (by omega)))
            obtain ⟨q81, t82, m83, k84⟩ : ∃ q t m, T[a77]? = some (.inl (3, q, t, m, 5)) := h79
            have g85 := X.1.p3 k84
            have h86 := z_Gm (hG.go X (by decide)).2.2 X.1 (z_cll (n := 8) (by omega) (by decide)) h43 h78 k49 k84
            refine z_xP zt114 21 63 [some (.ref 4), some (.int p1), some (.int p2), some (.int p3), some (.int p4), some (.ref a28), some (.ref a52), some (.int 0)] [.int p4, .int p3, .ref a77, .ref a28] rfl rfl ?_
            refine z_xcV (vs := [.ref a28, .ref a77, .int p3, .int p4]) (r := []) (L2 := [some (.ref a28), some (.ref a77), some (.int p3), some (.int p4), none, none, none]) zt114 22 rfl zo114 zzcV0_256 (Or.inr rfl) rfl X k34 (z_w8 (fun c => (([(4, 115), (10, 115), (7, 115), (5, 115), (11, 115), (8, 115), (6, 115), (9, 115)] : List (Nat × Nat)).find? fun t => t.1 == c) = some (c, 115)) rfl rfl rfl rfl rfl rfl rfl rfl w33) rfl rfl (Nat.le_of_ble_eq_true rfl) zzm115 (Nat.le_of_ble_eq_true rfl) rfl ?_
            have ea28 : a28 = w := Option.some.inj (h29.symm.trans owp1)
            have ea77 : a77 = b2 := Option.some.inj (h78.symm.trans ob2)
            refine zUC115 X.1 hcp1 (by rw [ea28]; exact kwp1) (by rw [ea77]; exact kb2) (by omega) (by omega) hbk (by rw [ea77]; exact fN) hAB.2.2.2.1 hsa ksa hSS hA (by rw [ea77]; exact hlz) hch ⟨hAB.2.2.2.2.2.2.1.2, hAB.2.2.2.2.2.2.2.1.2⟩ (by rw [ea28]; exact fsp1) (by rw [ea28]; exact fcp1) ⟨hm.1, by omega⟩ (by omega) (fun x89 M87 X88 hka _ => ?_)
            have X90 := X.go X88 (z_sb (by decide))
            show z_ev (d + 5) 114 66 [some (.ref 4), some (.int p1), some (.int p2), some (.int p3), some (.int p4), some (.ref a28), some (.ref a52), some (.int 0)] [.int x89] M87 _
            exact z_xri zt114 23 rfl zzr114 (kk x89 M87 X90 (Or.inr ⟨⟨hv, by omega⟩, Or.inr ⟨by omega, hka⟩⟩))
          refine z_xP zt103 14 38 [some (.ref 4), some (.int p2), some (.int p3), some (.ref a52)] [.int (-4)] rfl rfl ?_
          refine z_xri zt103 16 rfl zzr103 ?_
          show z_ev (d + 5) 114 42 [some (.ref 4), some (.int p1), some (.int p2), some (.int p3), some (.int p4), some (.ref a28), some (.ref a52), none] [.int (-4)] M0 _
          refine z_xP zt114 13 46 [some (.ref 4), some (.int p1), some (.int p2), some (.int p3), some (.int p4), some (.ref a28), some (.ref a52), some (.int (-4))] [.int (-4)] rfl rfl ?_
          refine z_xZ zt114 14 rfl rfl (fun (h92 : ((-4) : Int) = 0) => absurd h92 (by omega)) (fun (h92 : ((-4) : Int) ≠ 0) => ?_)
          refine z_xP zt114 15 51 [some (.ref 4), some (.int p1), some (.int p2), some (.int p3), some (.int p4), some (.ref a28), some (.ref a52), some (.int (-4))] [.int (-4)] rfl rfl ?_
          have qm4 : (((-4) : Int32)).toInt = (-4) := rfl
          exact z_xri zt114 16 rfl zzr114 (kk (-4) M0 X (Or.inr ⟨⟨hv, by omega⟩, Or.inl ⟨rfl, by omega⟩⟩))
        refine z_xP zt103 7 21 [some (.ref 4), some (.int p2), some (.int p3), some (.ref a52)] [.int (-1)] rfl rfl ?_
        refine z_xri zt103 8 rfl zzr103 ?_
        show z_ev (d + 5) 114 42 [some (.ref 4), some (.int p1), some (.int p2), some (.int p3), some (.int p4), some (.ref a28), some (.ref a52), none] [.int (-1)] M0 _
        refine z_xP zt114 13 46 [some (.ref 4), some (.int p1), some (.int p2), some (.int p3), some (.int p4), some (.ref a28), some (.ref a52), some (.int (-1))] [.int (-1)] rfl rfl ?_
        refine z_xZ zt114 14 rfl rfl (fun (h93 : ((-1) : Int) = 0) => absurd h93 (by omega)) (fun (h93 : ((-1) : Int) ≠ 0) => ?_)
        refine z_xP zt114 15 51 [some (.ref 4), some (.int p1), some (.int p2), some (.int p3), some (.int p4), some (.ref a28), some (.ref a52), some (.int (-1))] [.int (-1)] rfl rfl ?_
        have qm1 : (((-1) : Int32)).toInt = (-1) := rfl
        exact z_xri zt114 16 rfl zzr114 (kk (-1) M0 X (Or.inl ⟨rfl, by unfold z_vW; omega⟩))
      refine z_xP zt37 5 25 [some (.ref 4), some (.int p2)] [.null] rfl rfl ?_
      refine z_xrn zt37 11 rfl zzr37 ?_
      show z_ev (d + 4) 103 5 [some (.ref 4), some (.int p2), some (.int p3), none] [.null] M0 _
      refine z_xP zt103 2 20 [some (.ref 4), some (.int p2), some (.int p3), some (.null)] [] rfl rfl ?_
      refine z_xP zt103 7 21 [some (.ref 4), some (.int p2), some (.int p3), some (.null)] [.int (-1)] rfl rfl ?_
      refine z_xri zt103 8 rfl zzr103 ?_
      show z_ev (d + 5) 114 42 [some (.ref 4), some (.int p1), some (.int p2), some (.int p3), some (.int p4), some (.ref a28), some (.ref a52), none] [.int (-1)] M0 _
      refine z_xP zt114 13 46 [some (.ref 4), some (.int p1), some (.int p2), some (.int p3), some (.int p4), some (.ref a28), some (.ref a52), some (.int (-1))] [.int (-1)] rfl rfl ?_
      refine z_xZ zt114 14 rfl rfl (fun (h94 : ((-1) : Int) = 0) => absurd h94 (by omega)) (fun (h94 : ((-1) : Int) ≠ 0) => ?_)
      refine z_xP zt114 15 51 [some (.ref 4), some (.int p1), some (.int p2), some (.int p3), some (.int p4), some (.ref a28), some (.ref a52), some (.int (-1))] [.int (-1)] rfl rfl ?_
      have qm1 : (((-1) : Int32)).toInt = (-1) := rfl
      exact z_xri zt114 16 rfl zzr114 (kk (-1) M0 X (Or.inl ⟨rfl, by unfold z_vW; omega⟩))
    refine z_xP zt37 5 25 [some (.ref 4), some (.int p2)] [.null] rfl rfl ?_
    refine z_xrn zt37 11 rfl zzr37 ?_
    show z_ev (d + 5) 114 12 [some (.ref 4), some (.int p1), some (.int p2), some (.int p3), some (.int p4), some (.ref a28), none, none] [.null] M0 _
    refine z_xP zt114 4 19 [some (.ref 4), some (.int p1), some (.int p2), some (.int p3), some (.int p4), some (.ref a28), some (.null), none] [] rfl rfl ?_
    refine z_xP zt114 5 34 [some (.ref 4), some (.int p1), some (.int p2), some (.int p3), some (.int p4), some (.ref a28), some (.null), none] [] rfl rfl ?_
    refine z_xP zt114 9 35 [some (.ref 4), some (.int p1), some (.int p2), some (.int p3), some (.int p4), some (.ref a28), some (.null), none] [.int (-1)] rfl rfl ?_
    have qm1 : (((-1) : Int32)).toInt = (-1) := rfl
    exact z_xri zt114 10 rfl zzr114 (kk (-1) M0 X (Or.inl ⟨rfl, by unfold z_vW; omega⟩))
  refine z_xP zt84 5 22 [some (.ref 4), some (.int p1)] [.null] rfl rfl ?_
  refine z_xrn zt84 10 rfl zzr84 ?_
  show z_ev (d + 5) 114 5 [some (.ref 4), some (.int p1), some (.int p2), some (.int p3), some (.int p4), none, none, none] [.null] M0 _
  refine z_xP zt114 2 9 [some (.ref 4), some (.int p1), some (.int p2), some (.int p3), some (.int p4), some (.null), none, none] [.int p2, .ref 4] rfl rfl ?_
  refine z_xcV (vs := [.ref 4, .int p2]) (r := []) (L2 := [some (.ref 4), some (.int p2)]) zt114 3 rfl zo114 zzcV0_108 (Or.inl rfl) rfl X f4 rfl rfl rfl (Nat.le_of_ble_eq_true rfl) zzm37 (Nat.le_of_ble_eq_true rfl) rfl ?_
  refine z_xP zt37 0 1 [some (.ref 4), some (.int p2)] [.int p2] rfl rfl ?_
  refine z_xZ zt37 1 rfl rfl (fun (h95 : p2.toInt < 0) => ?_) (fun (h95 : 0 ≤ p2.toInt) => ?_)
  · skip
    refine z_xP zt37 5 25 [some (.ref 4), some (.int p2)] [.null] rfl rfl ?_
    refine z_xrn zt37 11 rfl zzr37 ?_
    show z_ev (d + 5) 114 12 [some (.ref 4), some (.int p1), some (.int p2), some (.int p3), some (.int p4), some (.null), none, none] [.null] M0 _
    refine z_xP zt114 4 34 [some (.ref 4), some (.int p1), some (.int p2), some (.int p3), some (.int p4), some (.null), some (.null), none] [] rfl rfl ?_
    refine z_xP zt114 9 35 [some (.ref 4), some (.int p1), some (.int p2), some (.int p3), some (.int p4), some (.null), some (.null), none] [.int (-1)] rfl rfl ?_
    have qm1 : (((-1) : Int32)).toInt = (-1) := rfl
    exact z_xri zt114 10 rfl zzr114 (kk (-1) M0 X (Or.inl ⟨rfl, by unfold z_vW; omega⟩))
  refine z_xP zt37 2 6 [some (.ref 4), some (.int p2)] [.ref 4, .int p2] rfl rfl ?_
  refine z_xgI zt37 3 rfl zo37 zzf0_59 X f4 (by decide) (by decide) rfl (fun (x97 : Int32) h96 (h98 : 0 ≤ x97.toInt) (h99 : x97.toInt ≤ 8) => ?_)
  have ex97 : (z_Fv M0 4 3).toInt = x97.toInt := by rw [z_Fv.of h96]
  have h100 := z_b32 p2
  refine z_xJ zt37 4 rfl rfl (fun (h101 : p2.toInt < x97.toInt) => ?_) (fun (h101 : x97.toInt ≤ p2.toInt) => ?_)
  · skip
    refine z_xP zt37 6 17 [some (.ref 4), some (.int p2)] [.ref 4] rfl rfl ?_
    refine z_xgX (b := 10) zt37 7 rfl zo37 zzf0_18 X f4 (by decide) (by decide) rfl ?_
    refine z_xP zt37 8 21 [some (.ref 4), some (.int p2)] [.int p2, .ref 10] rfl rfl ?_
    have f10 : T[10]? = some (.inr (10, 2, 8, 9, 0)) := X.1.k rfl (by decide)
    refine z_xal zt37 9 rfl X f10 (by decide) (by decide) (by decide) (by omega) (by omega) (fun (a102 : Nat) h103 h104 => ?_) (fun h105 => absurd h105 (z_Gs (hG.go X (by decide)).2.1 h96 (by omega) (by omega)))
    obtain ⟨q106, t107, m108, k109⟩ : ∃ q t m, T[a102]? = some (.inl (3, q, t, m, 9)) := h104
    have g110 := X.1.p3 k109
    refine z_xgR (κ := .inl (2, q106, t107, m108, 0)) zt37 10 rfl zo37 zzf0_89 X k109 (by decide) (by decide) rfl (fun (a112 : Nat) h111 k113 => ?_)
    have g114 := X.1.p2 k113
    refine z_xra zt37 11 rfl zzr37 ?_
    show z_ev (d + 5) 114 12 [some (.ref 4), some (.int p1), some (.int p2), some (.int p3), some (.int p4), some (.null), none, none] [.ref a112] M0 _
    refine z_xP zt114 4 34 [some (.ref 4), some (.int p1), some (.int p2), some (.int p3), some (.int p4), some (.null), some (.ref a112), none] [] rfl rfl ?_
    refine z_xP zt114 9 35 [some (.ref 4), some (.int p1), some (.int p2), some (.int p3), some (.int p4), some (.null), some (.ref a112), none] [.int (-1)] rfl rfl ?_
    have qm1 : (((-1) : Int32)).toInt = (-1) := rfl
    exact z_xri zt114 10 rfl zzr114 (kk (-1) M0 X (Or.inl ⟨rfl, by unfold z_vW; omega⟩))
  refine z_xP zt37 5 25 [some (.ref 4), some (.int p2)] [.null] rfl rfl ?_
  refine z_xrn zt37 11 rfl zzr37 ?_
  show z_ev (d + 5) 114 12 [some (.ref 4), some (.int p1), some (.int p2), some (.int p3), some (.int p4), some (.null), none, none] [.null] M0 _
  refine z_xP zt114 4 34 [some (.ref 4), some (.int p1), some (.int p2), some (.int p3), some (.int p4), some (.null), some (.null), none] [] rfl rfl ?_
  refine z_xP zt114 9 35 [some (.ref 4), some (.int p1), some (.int p2), some (.int p3), some (.int p4), some (.null), some (.null), none] [.int (-1)] rfl rfl ?_
  have qm1 : (((-1) : Int32)).toInt = (-1) := rfl
  exact z_xri zt114 10 rfl zzr114 (kk (-1) M0 X (Or.inl ⟨rfl, by unfold z_vW; omega⟩))
