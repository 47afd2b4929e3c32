/-! over all benches, the calls of the class -/
def z_vW2 (M : zH) (p1 p2 p3 : Int32) : Prop := (0 ≤ p1.toInt ∧ p1.toInt < (z_Fv M 4 5).toInt) ∧ (0 ≤ p2.toInt ∧ p2.toInt < (z_Fv M 4 5).toInt) ∧ (0 ≤ p3.toInt ∧ p3.toInt < (z_Fv M 4 3).toInt)
/-- a way of the class -/
def z_wyK (T : List zK) (M : zH) (p : Int32) (w c : Nat) (sh ch : Int32) : Prop := (4 ≤ c ∧ c ≤ 11) ∧ z_O M 12 p.toNatClampNeg = some w ∧ T[w]? = some (.inl (c, 0, 0, 0, 0)) ∧ z_F M w 1 = some (.int sh) ∧ z_F M w 2 = some (.int ch)
/-- an agenda of the class and its trial bench, as all benches ask it -/
def z_ag (T : List zK) (M : zH) (p : Int32) (b b2 N sa q t m pr en : Nat) (B : Nat → Nat) (S : Nat → Int32) (A : Int32) : Prop := z_AB T M p.toNatClampNeg b N q t m pr en B ∧ (z_O M 11 p.toNatClampNeg = some b2 ∧ T[b2]? = some (.inl (3, q, t, m, 5)) ∧ z_F M b2 0 = some (.ref N) ∧ z_lz M b2) ∧ (z_F M N 5 = some (.ref sa) ∧ T[sa]? = some (.inr (102, 0, m, 0, 1023)) ∧ ∀ k, k < m → z_Ar M sa k = S k) ∧ A.toInt = ((2 ^ q : Nat) : Int) - 1 ∧ (1 ≤ m ∧ m = z_lc B (2 ^ q)) ∧ z_blk T M
theorem z_agX {T : List zK} {M : zH} {V p : Int32} (hW : z_W M T) (hR : z_RR T M) (h9 : z_R89 T M) (hG : z_GG T M) (hV : z_F M 4 3 = some (.int V)) (hp : 0 ≤ p.toInt ∧ p.toInt < V.toInt) (V8 : V.toInt ≤ 8) : ∃ (b b2 N sa q t m pr en : Nat) (B : Nat → Nat) (S : Nat → Int32) (A : Int32), z_ag T M p b b2 N sa q t m pr en B S A := by
  obtain ⟨b, N, q, t, m, pr, en, B, hAB⟩ := hR.2.1 V hV p.toNatClampNeg (z_pc hp)
  have kb := hAB.2.1
  have g := hW.p3 kb
  have hp8 : p.toNatClampNeg < 8 := by
    show p.toInt.toNat < 8
    omega
  obtain ⟨f, e1, e2, e3⟩ := hW.aa (hW.k (k := 11) (κ := .inr (11, 2, 8, 5, 0)) rfl (by decide)) (by decide) (by decide)
  match hb : z_O M 11 p.toNatClampNeg with
  | none => exact absurd hb (hG.2.1.1 V hV p hp.1 hp.2).2
  | some b2 =>
    obtain ⟨q2, t2, m2, kb2⟩ : ∃ q t m, T[b2]? = some (.inl (3, q, t, m, 5)) := e3 p.toNatClampNeg b2 hp8 (by rw [← e2]; exact hb)
    obtain ⟨rfl, rfl, rfl⟩ := z_Gm hG.2.2 hW hp8 hAB.1 hb kb kb2
    have f0 := (hG.2.2 p.toNatClampNeg b b2 hp8 hAB.1 hb).symm.trans hAB.2.2.1
    obtain ⟨_, _, hm, _, _, _, ⟨sa, f5, ksa, _⟩, _⟩ := id hAB.2.2.2.1
    have hA : (Int32.ofNat (2 ^ q - 1)).toInt = ((2 ^ q : Nat) : Int) - 1 := by
      have hP : 2 ^ q ≤ 1024 := Nat.pow_le_pow_right (n := 2) (j := 10) (by decide) (by omega)
      have hP1 : 0 < 2 ^ q := Nat.two_pow_pos q
      rw [Int32.toInt_ofNat_of_lt (by omega)]
      omega
    exact ⟨b, b2, N, sa, q, t, m, pr, en, B, z_Ar M sa, Int32.ofNat (2 ^ q - 1), hAB, ⟨hb, kb2, f0, h9.2 b2 q t m kb2⟩, ⟨f5, ksa, fun _ _ => rfl⟩, hA, ⟨by omega, hm⟩, hR.2.2.1⟩
theorem z_wyX {T TA : List zK} {M : zH} {V p : Int32} (hWA : z_W M TA) (hW : z_W M T) (h1 : z_Rw1 TA M) (hV : z_F M 4 5 = some (.int V)) (hp : 0 ≤ p.toInt ∧ p.toInt < V.toInt) (hG : z_GG T M) (V20 : V.toInt ≤ 20) : ∃ (w c : Nat) (sh ch : Int32), z_wyK T M p w c sh ch ∧ (z_Ar M 36 p.toNatClampNeg).toInt + 4 = (c : Int) ∧ sh = z_Ar M 37 p.toNatClampNeg ∧ ch = z_Ar M 38 p.toNatClampNeg := by
  have hp20 : p.toNatClampNeg < 20 := by
    show p.toInt.toNat < 20
    omega
  obtain ⟨f, e1, e2, e3⟩ := hW.aa (hW.k (k := 12) (κ := .inr (12, 3, 20, 0, 0)) rfl (by decide)) (by decide) (by decide)
  match hb : z_O M 12 p.toNatClampNeg with
  | none => exact absurd hb (hG.2.1.2 V hV p hp.1 hp.2)
  | some w =>
    obtain ⟨c, c4, c11, kw⟩ : ∃ ci, 4 ≤ ci ∧ ci ≤ 11 ∧ T[w]? = some (.inl (ci, 0, 0, 0, 0)) := e3 p.toNatClampNeg w hp20 (by rw [← e2]; exact hb)
    obtain ⟨sh, f1, _, _⟩ := z_W.fi hW kw (k := 1) (lo := 0) (hi := 9) (z_nf8 ⟨c4, c11⟩ (by decide)) (z_fs8 ⟨c4, c11⟩)
    obtain ⟨ch, f2, _, _⟩ := z_W.fi hW kw (k := 2) (lo := 0) (hi := 8) (z_nf8 ⟨c4, c11⟩ (by decide)) (z_fs8 ⟨c4, c11⟩)
    obtain ⟨hc, g36, g37, g38⟩ := z_wayof hWA hW h1 hV hp hb kw f1 f2
    exact ⟨w, c, sh, ch, ⟨hc, hb, kw, f1, f2⟩, g36, g37, g38⟩
theorem zUC112 {T : List zK} {d : Nat} {K : Option Value → zH → Prop} {p1 : Int32} {p2 : Int32} {p3 : Int32} {p4 : Int32} {p5 : Int32} {M0 : zH} (hW : z_W M0 T) (hG : z_GG T M0) (hch : z_chO M0) {w cw w2 cw2 b b2 NN sa q t m pr en : Nat} {B : Nat → Nat} {S : Nat → Int32} {A sh ch sh2 ch2 : Int32} (hD : z_vW2 M0 p1 p2 p3 → z_wyK T M0 p1 w cw sh ch ∧ z_wyK T M0 p2 w2 cw2 sh2 ch2 ∧ z_ag T M0 p3 b b2 NN sa q t m pr en B S A) (kk : ∀ (x : Int32) (M1 : zH), z_X T zw112 M0 M1 → z_aA (z_vW2 M0 p1 p2 p3) ((1 ≤ p4.toInt ∧ p4.toInt ≤ 5) ∧ 0 ≤ p5.toInt ∧ p5.toInt ≤ 1) m (z_kA (z_pLi cw cw2 B q pr en sh.toInt.toNat ch.toInt.toNat sh2.toInt.toNat ch2.toInt.toNat m p4.toInt.toNat S A) (fun k => (z_cdB (z_bk m p4.toInt.toNat k) p4.toInt.toNat : Int)) (z_T m p4.toInt.toNat) p5.toInt x.toInt) x.toInt → K (some (.int x)) M1) : z_ev (d + 5) 112 0 [some (.ref 4), some (.int p1), some (.int p2), some (.int p3), some (.int p4), some (.int p5), none, none, none] [] M0 K := by
  have X : z_X T zw112 M0 M0 := .refl hW
  refine z_xP zt112 0 2 [some (.ref 4), some (.int p1), some (.int p2), some (.int p3), some (.int p4), some (.int p5), none, none, none] [.int p1, .ref 4] rfl rfl ?_
  have f4 : T[4]? = some (.inl (0, 0, 0, 0, 0)) := X.1.k rfl (by decide)
  refine z_xcV (vs := [.ref 4, .int p1]) (r := []) (L2 := [some (.ref 4), some (.int p1)]) zt112 1 rfl zo112 zzcV0_221 (Or.inl rfl) rfl X f4 rfl rfl rfl (Nat.le_of_ble_eq_true rfl) zzm84 (Nat.le_of_ble_eq_true rfl) rfl ?_
  refine z_xP zt84 0 1 [some (.ref 4), some (.int p1)] [.int p1] rfl rfl ?_
  refine z_xZ zt84 1 rfl rfl (fun (h1 : p1.toInt < 0) => ?_) (fun (h1 : 0 ≤ p1.toInt) => ?_)
  · skip
    refine z_xP zt84 5 22 [some (.ref 4), some (.int p1)] [.null] rfl rfl ?_
    refine z_xrn zt84 10 rfl zzr84 ?_
    show z_ev (d + 5) 112 5 [some (.ref 4), some (.int p1), some (.int p2), some (.int p3), some (.int p4), some (.int p5), none, none, none] [.null] M0 _
    refine z_xP zt112 2 9 [some (.ref 4), some (.int p1), some (.int p2), some (.int p3), some (.int p4), some (.int p5), some (.null), none, none] [.int p2, .ref 4] rfl rfl ?_
    refine z_xcV (vs := [.ref 4, .int p2]) (r := []) (L2 := [some (.ref 4), some (.int p2)]) zt112 3 rfl zo112 zzcV0_221 (Or.inl rfl) rfl X f4 rfl rfl rfl (Nat.le_of_ble_eq_true rfl) zzm84 (Nat.le_of_ble_eq_true rfl) rfl ?_
    refine z_xP zt84 0 1 [some (.ref 4), some (.int p2)] [.int p2] rfl rfl ?_
    refine z_xZ zt84 1 rfl rfl (fun (h2 : p2.toInt < 0) => ?_) (fun (h2 : 0 ≤ p2.toInt) => ?_)
    · skip
      refine z_xP zt84 5 22 [some (.ref 4), some (.int p2)] [.null] rfl rfl ?_
      refine z_xrn zt84 10 rfl zzr84 ?_
      show z_ev (d + 5) 112 12 [some (.ref 4), some (.int p1), some (.int p2), some (.int p3), some (.int p4), some (.int p5), some (.null), none, none] [.null] M0 _
      refine z_xP zt112 4 32 [some (.ref 4), some (.int p1), some (.int p2), some (.int p3), some (.int p4), some (.int p5), some (.null), some (.null), none] [] rfl rfl ?_
      refine z_xP zt112 9 33 [some (.ref 4), some (.int p1), some (.int p2), some (.int p3), some (.int p4), some (.int p5), some (.null), some (.null), none] [.int (-1)] rfl rfl ?_
      have qm1 : (((-1) : Int32)).toInt = (-1) := rfl
      exact z_xri zt112 10 rfl zzr112 (kk (-1) M0 X (Or.inl ⟨rfl, by unfold z_vW2; omega⟩))
    refine z_xP zt84 2 6 [some (.ref 4), some (.int p2)] [.ref 4, .int p2] rfl rfl ?_
    refine z_xgI zt84 3 rfl zo84 zzf0_188 X f4 (by decide) (by decide) rfl (fun (x4 : Int32) h3 (h5 : 0 ≤ x4.toInt) (h6 : x4.toInt ≤ 20) => ?_)
    have ex4 : (z_Fv M0 4 5).toInt = x4.toInt := by rw [z_Fv.of h3]
    have h7 := z_b32 p2
    refine z_xJ zt84 4 rfl rfl (fun (h8 : p2.toInt < x4.toInt) => ?_) (fun (h8 : x4.toInt ≤ p2.toInt) => ?_)
    · skip
      refine z_xP zt84 6 17 [some (.ref 4), some (.int p2)] [.ref 4] rfl rfl ?_
      refine z_xgX (b := 12) zt84 7 rfl zo84 zzf0_27 X f4 (by decide) (by decide) rfl ?_
      refine z_xP zt84 8 21 [some (.ref 4), some (.int p2)] [.int p2, .ref 12] rfl rfl ?_
      have f12 : T[12]? = some (.inr (12, 3, 20, 0, 0)) := X.1.k rfl (by decide)
      refine z_xal zt84 9 rfl X f12 (by decide) (by decide) (by decide) (by omega) (by omega) (fun (a9 : Nat) h10 h11 => ?_) (fun h12 => absurd h12 (z_Gb (hG.go X (by decide)).2.1 h3 (by omega) (by omega)))
      obtain ⟨c13, w14l, w14u, k15⟩ : ∃ ci, 4 ≤ ci ∧ ci ≤ 11 ∧ T[a9]? = some (.inl (ci, 0, 0, 0, 0)) := h11
      have w14 := And.intro w14l w14u
      refine z_xra zt84 10 rfl zzr84 ?_
      show z_ev (d + 5) 112 12 [some (.ref 4), some (.int p1), some (.int p2), some (.int p3), some (.int p4), some (.int p5), some (.null), none, none] [.ref a9] M0 _
      refine z_xP zt112 4 32 [some (.ref 4), some (.int p1), some (.int p2), some (.int p3), some (.int p4), some (.int p5), some (.null), some (.ref a9), none] [] rfl rfl ?_
      refine z_xP zt112 9 33 [some (.ref 4), some (.int p1), some (.int p2), some (.int p3), some (.int p4), some (.int p5), some (.null), some (.ref a9), none] [.int (-1)] rfl rfl ?_
      have qm1 : (((-1) : Int32)).toInt = (-1) := rfl
      exact z_xri zt112 10 rfl zzr112 (kk (-1) M0 X (Or.inl ⟨rfl, by unfold z_vW2; omega⟩))
    refine z_xP zt84 5 22 [some (.ref 4), some (.int p2)] [.null] rfl rfl ?_
    refine z_xrn zt84 10 rfl zzr84 ?_
    show z_ev (d + 5) 112 12 [some (.ref 4), some (.int p1), some (.int p2), some (.int p3), some (.int p4), some (.int p5), some (.null), none, none] [.null] M0 _
    refine z_xP zt112 4 32 [some (.ref 4), some (.int p1), some (.int p2), some (.int p3), some (.int p4), some (.int p5), some (.null), some (.null), none] [] rfl rfl ?_
    refine z_xP zt112 9 33 [some (.ref 4), some (.int p1), some (.int p2), some (.int p3), some (.int p4), some (.int p5), some (.null), some (.null), none] [.int (-1)] rfl rfl ?_
    have qm1 : (((-1) : Int32)).toInt = (-1) := rfl
    exact z_xri zt112 10 rfl zzr112 (kk (-1) M0 X (Or.inl ⟨rfl, by unfold z_vW2; omega⟩))
  refine z_xP zt84 2 6 [some (.ref 4), some (.int p1)] [.ref 4, .int p1] rfl rfl ?_
  refine z_xgI zt84 3 rfl zo84 zzf0_188 X f4 (by decide) (by decide) rfl (fun (x17 : Int32) h16 (h18 : 0 ≤ x17.toInt) (h19 : x17.toInt ≤ 20) => ?_)
  have ex17 : (z_Fv M0 4 5).toInt = x17.toInt := by rw [z_Fv.of h16]
  have h20 := z_b32 p1
  refine z_xJ zt84 4 rfl rfl (fun (h21 : p1.toInt < x17.toInt) => ?_) (fun (h21 : x17.toInt ≤ p1.toInt) => ?_)
  · skip
    refine z_xP zt84 6 17 [some (.ref 4), some (.int p1)] [.ref 4] rfl rfl ?_
    refine z_xgX (b := 12) zt84 7 rfl zo84 zzf0_27 X f4 (by decide) (by decide) rfl ?_
    refine z_xP zt84 8 21 [some (.ref 4), some (.int p1)] [.int p1, .ref 12] rfl rfl ?_
    have f12 : T[12]? = some (.inr (12, 3, 20, 0, 0)) := X.1.k rfl (by decide)
    refine z_xal zt84 9 rfl X f12 (by decide) (by decide) (by decide) (by omega) (by omega) (fun (a22 : Nat) h23 h24 => ?_) (fun h25 => absurd h25 (z_Gb (hG.go X (by decide)).2.1 h16 (by omega) (by omega)))
    obtain ⟨c26, w27l, w27u, k28⟩ : ∃ ci, 4 ≤ ci ∧ ci ≤ 11 ∧ T[a22]? = some (.inl (ci, 0, 0, 0, 0)) := h24
    have w27 := And.intro w27l w27u
    refine z_xra zt84 10 rfl zzr84 ?_
    show z_ev (d + 5) 112 5 [some (.ref 4), some (.int p1), some (.int p2), some (.int p3), some (.int p4), some (.int p5), none, none, none] [.ref a22] M0 _
    refine z_xP zt112 2 9 [some (.ref 4), some (.int p1), some (.int p2), some (.int p3), some (.int p4), some (.int p5), some (.ref a22), none, none] [.int p2, .ref 4] rfl rfl ?_
    refine z_xcV (vs := [.ref 4, .int p2]) (r := []) (L2 := [some (.ref 4), some (.int p2)]) zt112 3 rfl zo112 zzcV0_221 (Or.inl rfl) rfl X f4 rfl rfl rfl (Nat.le_of_ble_eq_true rfl) zzm84 (Nat.le_of_ble_eq_true rfl) rfl ?_
    refine z_xP zt84 0 1 [some (.ref 4), some (.int p2)] [.int p2] rfl rfl ?_
    refine z_xZ zt84 1 rfl rfl (fun (h29 : p2.toInt < 0) => ?_) (fun (h29 : 0 ≤ p2.toInt) => ?_)
    · skip
      refine z_xP zt84 5 22 [some (.ref 4), some (.int p2)] [.null] rfl rfl ?_
      refine z_xrn zt84 10 rfl zzr84 ?_
      show z_ev (d + 5) 112 12 [some (.ref 4), some (.int p1), some (.int p2), some (.int p3), some (.int p4), some (.int p5), some (.ref a22), none, none] [.null] M0 _
      refine z_xP zt112 4 19 [some (.ref 4), some (.int p1), some (.int p2), some (.int p3), some (.int p4), some (.int p5), some (.ref a22), some (.null), none] [] rfl rfl ?_
      refine z_xP zt112 5 32 [some (.ref 4), some (.int p1), some (.int p2), some (.int p3), some (.int p4), some (.int p5), some (.ref a22), some (.null), none] [] rfl rfl ?_
      refine z_xP zt112 9 33 [some (.ref 4), some (.int p1), some (.int p2), some (.int p3), some (.int p4), some (.int p5), some (.ref a22), some (.null), none] [.int (-1)] rfl rfl ?_
      have qm1 : (((-1) : Int32)).toInt = (-1) := rfl
      exact z_xri zt112 10 rfl zzr112 (kk (-1) M0 X (Or.inl ⟨rfl, by unfold z_vW2; omega⟩))
    refine z_xP zt84 2 6 [some (.ref 4), some (.int p2)] [.ref 4, .int p2] rfl rfl ?_
    refine z_xgv zt84 3 rfl zo84 zzf0_188 X f4 (by decide) h16 ?_
    have h30 := z_b32 p2
    refine z_xJ zt84 4 rfl rfl (fun (h31 : p2.toInt < x17.toInt) => ?_) (fun (h31 : x17.toInt ≤ p2.toInt) => ?_)
    · skip
      refine z_xP zt84 6 17 [some (.ref 4), some (.int p2)] [.ref 4] rfl rfl ?_
      refine z_xgX (b := 12) zt84 7 rfl zo84 zzf0_27 X f4 (by decide) (by decide) rfl ?_
      refine z_xP zt84 8 21 [some (.ref 4), some (.int p2)] [.int p2, .ref 12] rfl rfl ?_
      refine z_xal zt84 9 rfl X f12 (by decide) (by decide) (by decide) (by omega) (by omega) (fun (a32 : Nat) h33 h34 => ?_) (fun h35 => absurd h35 (z_Gb (hG.go X (by decide)).2.1 h16 (by omega) (by omega)))
      obtain ⟨c36, w37l, w37u, k38⟩ : ∃ ci, 4 ≤ ci ∧ ci ≤ 11 ∧ T[a32]? = some (.inl (ci, 0, 0, 0, 0)) := h34
      have w37 := And.intro w37l w37u
      refine z_xra zt84 10 rfl zzr84 ?_
      show z_ev (d + 5) 112 12 [some (.ref 4), some (.int p1), some (.int p2), some (.int p3), some (.int p4), some (.int p5), some (.ref a22), none, none] [.ref a32] M0 _
      refine z_xP zt112 4 19 [some (.ref 4), some (.int p1), some (.int p2), some (.int p3), some (.int p4), some (.int p5), some (.ref a22), some (.ref a32), none] [] rfl rfl ?_
      refine z_xP zt112 5 24 [some (.ref 4), some (.int p1), some (.int p2), some (.int p3), some (.int p4), some (.int p5), some (.ref a22), some (.ref a32), none] [] rfl rfl ?_
      refine z_xP zt112 6 26 [some (.ref 4), some (.int p1), some (.int p2), some (.int p3), some (.int p4), some (.int p5), some (.ref a22), some (.ref a32), none] [.int p5] rfl rfl ?_
      refine z_xcS (vs := [.int p5]) (r := []) (L2 := [some (.int p5)]) zt112 7 rfl zo112 zzcS0_172 (Or.inl rfl) (Nat.le_of_ble_eq_true rfl) rfl rfl (Nat.le_of_ble_eq_true rfl) zzm64 (Nat.le_of_ble_eq_true rfl) rfl ?_
      refine z_xP zt64 0 1 [some (.int p5)] [.int p5] rfl rfl ?_
      refine z_xZ zt64 1 rfl rfl (fun (h39 : p5.toInt = 0) => ?_) (fun (h39 : p5.toInt ≠ 0) => ?_)
      · skip
        refine z_xP zt64 4 14 [some (.int p5)] [.int 1] rfl rfl ?_
        refine z_xrz zt64 6 rfl zzr64 (by decide) (by decide) ?_
        show z_ev (d + 5) 112 29 [some (.ref 4), some (.int p1), some (.int p2), some (.int p3), some (.int p4), some (.int p5), some (.ref a22), some (.ref a32), none] [.int 1] M0 _
        refine z_xZ zt112 8 rfl rfl (fun (h40 : (1 : Int) ≠ 0) => ?_) (fun (h40 : (1 : Int) = 0) => absurd h40 (by omega))
        refine z_xP zt112 11 38 [some (.ref 4), some (.int p1), some (.int p2), some (.int p3), some (.int p4), some (.int p5), some (.ref a22), some (.ref a32), none] [.int p4, .int p3, .ref 4] rfl rfl ?_
        refine z_xcV (vs := [.ref 4, .int p3, .int p4]) (r := []) (L2 := [some (.ref 4), some (.int p3), some (.int p4), none]) zt112 12 rfl zo112 zzcV0_241 (Or.inl rfl) rfl X f4 rfl rfl rfl (Nat.le_of_ble_eq_true rfl) zzm103 (Nat.le_of_ble_eq_true rfl) rfl ?_
        refine z_xP zt103 0 2 [some (.ref 4), some (.int p3), some (.int p4), none] [.int p3, .ref 4] rfl rfl ?_
        refine z_xcV (vs := [.ref 4, .int p3]) (r := []) (L2 := [some (.ref 4), some (.int p3)]) zt103 1 rfl zo103 zzcV0_108 (Or.inl rfl) rfl X f4 rfl rfl rfl (Nat.le_of_ble_eq_true rfl) zzm37 (Nat.le_of_ble_eq_true rfl) rfl ?_
        refine z_xP zt37 0 1 [some (.ref 4), some (.int p3)] [.int p3] rfl rfl ?_
        refine z_xZ zt37 1 rfl rfl (fun (h41 : p3.toInt < 0) => ?_) (fun (h41 : 0 ≤ p3.toInt) => ?_)
        · skip
          refine z_xP zt37 5 25 [some (.ref 4), some (.int p3)] [.null] rfl rfl ?_
          refine z_xrn zt37 11 rfl zzr37 ?_
          show z_ev (d + 4) 103 5 [some (.ref 4), some (.int p3), some (.int p4), none] [.null] M0 _
          refine z_xP zt103 2 20 [some (.ref 4), some (.int p3), some (.int p4), some (.null)] [] rfl rfl ?_
          refine z_xP zt103 7 21 [some (.ref 4), some (.int p3), some (.int p4), some (.null)] [.int (-1)] rfl rfl ?_
          refine z_xri zt103 8 rfl zzr103 ?_
          show z_ev (d + 5) 112 41 [some (.ref 4), some (.int p1), some (.int p2), some (.int p3), some (.int p4), some (.int p5), some (.ref a22), some (.ref a32), none] [.int (-1)] M0 _
          refine z_xP zt112 13 45 [some (.ref 4), some (.int p1), some (.int p2), some (.int p3), some (.int p4), some (.int p5), some (.ref a22), some (.ref a32), some (.int (-1))] [.int (-1)] rfl rfl ?_
          refine z_xZ zt112 14 rfl rfl (fun (h42 : ((-1) : Int) = 0) => absurd h42 (by omega)) (fun (h42 : ((-1) : Int) ≠ 0) => ?_)
          refine z_xP zt112 15 50 [some (.ref 4), some (.int p1), some (.int p2), some (.int p3), some (.int p4), some (.int p5), some (.ref a22), some (.ref a32), some (.int (-1))] [.int (-1)] rfl rfl ?_
          have qm1 : (((-1) : Int32)).toInt = (-1) := rfl
          exact z_xri zt112 16 rfl zzr112 (kk (-1) M0 X (Or.inl ⟨rfl, by unfold z_vW2; omega⟩))
        refine z_xP zt37 2 6 [some (.ref 4), some (.int p3)] [.ref 4, .int p3] rfl rfl ?_
        refine z_xgI zt37 3 rfl zo37 zzf0_59 X f4 (by decide) (by decide) rfl (fun (x44 : Int32) h43 (h45 : 0 ≤ x44.toInt) (h46 : x44.toInt ≤ 8) => ?_)
        have ex44 : (z_Fv M0 4 3).toInt = x44.toInt := by rw [z_Fv.of h43]
        have h47 := z_b32 p3
        refine z_xJ zt37 4 rfl rfl (fun (h48 : p3.toInt < x44.toInt) => ?_) (fun (h48 : x44.toInt ≤ p3.toInt) => ?_)
        · skip
          refine z_xP zt37 6 17 [some (.ref 4), some (.int p3)] [.ref 4] rfl rfl ?_
          refine z_xgX (b := 10) zt37 7 rfl zo37 zzf0_18 X f4 (by decide) (by decide) rfl ?_
          refine z_xP zt37 8 21 [some (.ref 4), some (.int p3)] [.int p3, .ref 10] rfl rfl ?_
          have f10 : T[10]? = some (.inr (10, 2, 8, 9, 0)) := X.1.k rfl (by decide)
          refine z_xal zt37 9 rfl X f10 (by decide) (by decide) (by decide) (by omega) (by omega) (fun (a49 : Nat) h50 h51 => ?_) (fun h52 => absurd h52 (z_Gs (hG.go X (by decide)).2.1 h43 (by omega) (by omega)))
          obtain ⟨q53, t54, m55, k56⟩ : ∃ q t m, T[a49]? = some (.inl (3, q, t, m, 9)) := h51
          have g57 := X.1.p3 k56
          have hv : z_vW2 M0 p1 p2 p3 := by unfold z_vW2; omega
          obtain ⟨⟨hcp1, owp1, kwp1, fsp1, fcp1⟩, ⟨hcp2, owp2, kwp2, fsp2, fcp2⟩, hAB, ⟨ob2, kb2, fN, hlz⟩, ⟨hsa, ksa, hSS⟩, hA, hm, hbk⟩ := hD hv
          obtain ⟨eq0, em0⟩ : q53 = q ∧ m55 = m := by
            have e := hAB.2.1
            rw [← show a49 = b from Option.some.inj (h50.symm.trans hAB.1), k56] at e
            cases e
            exact ⟨rfl, rfl⟩
          refine z_xgR (κ := .inl (2, q53, t54, m55, 0)) zt37 10 rfl zo37 zzf0_89 X k56 (by decide) (by decide) rfl (fun (a59 : Nat) h58 k60 => ?_)
          have g61 := X.1.p2 k60
          refine z_xra zt37 11 rfl zzr37 ?_
          show z_ev (d + 4) 103 5 [some (.ref 4), some (.int p3), some (.int p4), none] [.ref a59] M0 _
          refine z_xP zt103 2 10 [some (.ref 4), some (.int p3), some (.int p4), some (.ref a59)] [] rfl rfl ?_
          refine z_xP zt103 3 12 [some (.ref 4), some (.int p3), some (.int p4), some (.ref a59)] [.int 1, .int p4] rfl rfl ?_
          refine z_xJ zt103 4 rfl rfl (fun (h62 : p4.toInt < 1) => ?_) (fun (h62 : 1 ≤ p4.toInt) => ?_)
          · skip
            refine z_xP zt103 7 21 [some (.ref 4), some (.int p3), some (.int p4), some (.ref a59)] [.int (-1)] rfl rfl ?_
            refine z_xri zt103 8 rfl zzr103 ?_
            show z_ev (d + 5) 112 41 [some (.ref 4), some (.int p1), some (.int p2), some (.int p3), some (.int p4), some (.int p5), some (.ref a22), some (.ref a32), none] [.int (-1)] M0 _
            refine z_xP zt112 13 45 [some (.ref 4), some (.int p1), some (.int p2), some (.int p3), some (.int p4), some (.int p5), some (.ref a22), some (.ref a32), some (.int (-1))] [.int (-1)] rfl rfl ?_
            refine z_xZ zt112 14 rfl rfl (fun (h63 : ((-1) : Int) = 0) => absurd h63 (by omega)) (fun (h63 : ((-1) : Int) ≠ 0) => ?_)
            refine z_xP zt112 15 50 [some (.ref 4), some (.int p1), some (.int p2), some (.int p3), some (.int p4), some (.int p5), some (.ref a22), some (.ref a32), some (.int (-1))] [.int (-1)] rfl rfl ?_
            have qm1 : (((-1) : Int32)).toInt = (-1) := rfl
            exact z_xri zt112 16 rfl zzr112 (kk (-1) M0 X (Or.inl ⟨rfl, by unfold z_vW2; omega⟩))
          refine z_xP zt103 5 17 [some (.ref 4), some (.int p3), some (.int p4), some (.ref a59)] [.int 5, .int p4] rfl rfl ?_
          refine z_xJ zt103 6 rfl rfl (fun (h64 : p4.toInt ≤ 5) => ?_) (fun (h64 : 5 < p4.toInt) => ?_)
          · skip
            refine z_xP zt103 9 23 [some (.ref 4), some (.int p3), some (.int p4), some (.ref a59)] [.ref a59] rfl rfl ?_
            refine z_xgR (κ := .inr (102, 0, m55, 0, 1023)) zt103 10 rfl zo103 zzf0_74 X k60 (by decide) (by decide) rfl (fun (a66 : Nat) h65 k67 => ?_)
            refine z_xln zt103 11 rfl X k67 (by decide) (by omega) (fun (x68 : Int32) (h69 : x68.toInt = ((m55 : Nat) : Int)) => ?_)
            refine z_xP zt103 12 29 [some (.ref 4), some (.int p3), some (.int p4), some (.ref a59)] [.int 12, .int x68] rfl rfl ?_
            refine z_xJ zt103 13 rfl rfl (fun (h70 : x68.toInt ≤ 12) => ?_) (fun (h70 : 12 < x68.toInt) => ?_)
            · skip
              refine z_xP zt103 15 38 [some (.ref 4), some (.int p3), some (.int p4), some (.ref a59)] [.int 0] rfl rfl ?_
              refine z_xri zt103 16 rfl zzr103 ?_
              show z_ev (d + 5) 112 41 [some (.ref 4), some (.int p1), some (.int p2), some (.int p3), some (.int p4), some (.int p5), some (.ref a22), some (.ref a32), none] [.int 0] M0 _
              refine z_xP zt112 13 45 [some (.ref 4), some (.int p1), some (.int p2), some (.int p3), some (.int p4), some (.int p5), some (.ref a22), some (.ref a32), some (.int 0)] [.int 0] rfl rfl ?_
              refine z_xZ zt112 14 rfl rfl (fun (h71 : (0 : Int) = 0) => ?_) (fun (h71 : (0 : Int) ≠ 0) => absurd h71 (by omega))
              refine z_xP zt112 17 56 [some (.ref 4), some (.int p1), some (.int p2), some (.int p3), some (.int p4), some (.int p5), some (.ref a22), some (.ref a32), some (.int 0)] [.ref 4, .ref a32, .ref a22] rfl rfl ?_
              refine z_xgX (b := 11) zt112 18 rfl zo112 zzf0_22 X f4 (by decide) (by decide) rfl ?_
              refine z_xP zt112 19 60 [some (.ref 4), some (.int p1), some (.int p2), some (.int p3), some (.int p4), some (.int p5), some (.ref a22), some (.ref a32), some (.int 0)] [.int p3, .ref 11, .ref a32, .ref a22] rfl rfl ?_
              have f11 : T[11]? = some (.inr (11, 2, 8, 5, 0)) := X.1.k rfl (by decide)
              refine z_xal zt112 20 rfl X f11 (by decide) (by decide) (by decide) (by omega) (by omega) (fun (a72 : Nat) h73 h74 => ?_) (fun h75 => absurd h75 (z_Gt (hG.go X (by decide)).2.1 h43 (by omega) (by omega)))
              obtain ⟨q76, t77, m78, k79⟩ : ∃ q t m, T[a72]? = some (.inl (3, q, t, m, 5)) := h74
              have g80 := X.1.p3 k79
              have h81 := z_Gm (hG.go X (by decide)).2.2 X.1 (z_cll (n := 8) (by omega) (by decide)) h50 h73 k56 k79
              refine z_xP zt112 21 66 [some (.ref 4), some (.int p1), some (.int p2), some (.int p3), some (.int p4), some (.int p5), some (.ref a22), some (.ref a32), some (.int 0)] [.int 1, .int p5, .int p4, .ref a72, .ref a32, .ref a22] rfl rfl ?_
              refine z_xJ zt112 22 rfl rfl (fun (h82 : p5.toInt ≠ 1) => ?_) (fun (h82 : p5.toInt = 1) => absurd h82 (by omega))
              refine z_xP zt112 24 74 [some (.ref 4), some (.int p1), some (.int p2), some (.int p3), some (.int p4), some (.int p5), some (.ref a22), some (.ref a32), some (.int 0)] [.int 0, .int p4, .ref a72, .ref a32, .ref a22] rfl rfl ?_
              refine z_xcV (vs := [.ref a22, .ref a32, .ref a72, .int p4, .int 0]) (r := []) (L2 := [some (.ref a22), some (.ref a32), some (.ref a72), some (.int p4), some (.int 0), none, none, none]) zt112 25 rfl zo112 zzcV0_252 (Or.inr rfl) rfl X k28 (z_w8 (fun c => (([(4, 113), (10, 113), (7, 113), (5, 113), (11, 113), (8, 113), (6, 113), (9, 113)] : List (Nat × Nat)).find? fun t => t.1 == c) = some (c, 113)) rfl rfl rfl rfl rfl rfl rfl rfl w27) rfl rfl (Nat.le_of_ble_eq_true rfl) zzm113 (Nat.le_of_ble_eq_true rfl) rfl ?_
              have q0 : ((0 : Int32)).toInt = 0 := rfl
              have q0 : ((0 : Int32)).toInt = 0 := rfl
              have ea22 : a22 = w := Option.some.inj (h23.symm.trans owp1)
              have ea32 : a32 = w2 := Option.some.inj (h33.symm.trans owp2)
              have ea72 : a72 = b2 := Option.some.inj (h73.symm.trans ob2)
              refine zUC113 X.1 hcp1 (by rw [ea22]; exact kwp1) hcp2 (by rw [ea32]; exact kwp2) (by rw [ea72]; exact kb2) (by omega) (by decide) hbk (by rw [ea72]; exact fN) hAB.2.2.2.1 hsa ksa hSS hA (by rw [ea72]; exact hlz) hch ⟨hAB.2.2.2.2.2.2.1.2, hAB.2.2.2.2.2.2.2.1.2⟩ (by rw [ea22]; exact fsp1) (by rw [ea22]; exact fcp1) (by rw [ea32]; exact fsp2) (by rw [ea32]; exact fcp2) ⟨hm.1, by omega⟩ (fun x85 M83 X84 hka _ => ?_)
              have X86 := X.go X84 (z_sb (by decide))
              show z_ev (d + 5) 112 77 [some (.ref 4), some (.int p1), some (.int p2), some (.int p3), some (.int p4), some (.int p5), some (.ref a22), some (.ref a32), some (.int 0)] [.int x85] M83 _
              exact z_xri zt112 26 rfl zzr112 (kk x85 M83 X86 (Or.inr ⟨⟨hv, by omega⟩, Or.inr ⟨by omega, by rw [h39]; exact hka⟩⟩))
            refine z_xP zt103 14 38 [some (.ref 4), some (.int p3), some (.int p4), some (.ref a59)] [.int (-4)] rfl rfl ?_
            refine z_xri zt103 16 rfl zzr103 ?_
            show z_ev (d + 5) 112 41 [some (.ref 4), some (.int p1), some (.int p2), some (.int p3), some (.int p4), some (.int p5), some (.ref a22), some (.ref a32), none] [.int (-4)] M0 _
            refine z_xP zt112 13 45 [some (.ref 4), some (.int p1), some (.int p2), some (.int p3), some (.int p4), some (.int p5), some (.ref a22), some (.ref a32), some (.int (-4))] [.int (-4)] rfl rfl ?_
            refine z_xZ zt112 14 rfl rfl (fun (h88 : ((-4) : Int) = 0) => absurd h88 (by omega)) (fun (h88 : ((-4) : Int) ≠ 0) => ?_)
            refine z_xP zt112 15 50 [some (.ref 4), some (.int p1), some (.int p2), some (.int p3), some (.int p4), some (.int p5), some (.ref a22), some (.ref a32), some (.int (-4))] [.int (-4)] rfl rfl ?_
            have qm4 : (((-4) : Int32)).toInt = (-4) := rfl
            exact z_xri zt112 16 rfl zzr112 (kk (-4) M0 X (Or.inr ⟨⟨hv, by omega⟩, Or.inl ⟨rfl, by omega⟩⟩))
          refine z_xP zt103 7 21 [some (.ref 4), some (.int p3), some (.int p4), some (.ref a59)] [.int (-1)] rfl rfl ?_
          refine z_xri zt103 8 rfl zzr103 ?_
          show z_ev (d + 5) 112 41 [some (.ref 4), some (.int p1), some (.int p2), some (.int p3), some (.int p4), some (.int p5), some (.ref a22), some (.ref a32), none] [.int (-1)] M0 _
          refine z_xP zt112 13 45 [some (.ref 4), some (.int p1), some (.int p2), some (.int p3), some (.int p4), some (.int p5), some (.ref a22), some (.ref a32), some (.int (-1))] [.int (-1)] rfl rfl ?_
          refine z_xZ zt112 14 rfl rfl (fun (h89 : ((-1) : Int) = 0) => absurd h89 (by omega)) (fun (h89 : ((-1) : Int) ≠ 0) => ?_)
          refine z_xP zt112 15 50 [some (.ref 4), some (.int p1), some (.int p2), some (.int p3), some (.int p4), some (.int p5), some (.ref a22), some (.ref a32), some (.int (-1))] [.int (-1)] rfl rfl ?_
          have qm1 : (((-1) : Int32)).toInt = (-1) := rfl
          exact z_xri zt112 16 rfl zzr112 (kk (-1) M0 X (Or.inl ⟨rfl, by unfold z_vW2; omega⟩))
        refine z_xP zt37 5 25 [some (.ref 4), some (.int p3)] [.null] rfl rfl ?_
        refine z_xrn zt37 11 rfl zzr37 ?_
        show z_ev (d + 4) 103 5 [some (.ref 4), some (.int p3), some (.int p4), none] [.null] M0 _
        refine z_xP zt103 2 20 [some (.ref 4), some (.int p3), some (.int p4), some (.null)] [] rfl rfl ?_
        refine z_xP zt103 7 21 [some (.ref 4), some (.int p3), some (.int p4), some (.null)] [.int (-1)] rfl rfl ?_
        refine z_xri zt103 8 rfl zzr103 ?_
        show z_ev (d + 5) 112 41 [some (.ref 4), some (.int p1), some (.int p2), some (.int p3), some (.int p4), some (.int p5), some (.ref a22), some (.ref a32), none] [.int (-1)] M0 _
        refine z_xP zt112 13 45 [some (.ref 4), some (.int p1), some (.int p2), some (.int p3), some (.int p4), some (.int p5), some (.ref a22), some (.ref a32), some (.int (-1))] [.int (-1)] rfl rfl ?_
        refine z_xZ zt112 14 rfl rfl (fun (h90 : ((-1) : Int) = 0) => absurd h90 (by omega)) (fun (h90 : ((-1) : Int) ≠ 0) => ?_)
        refine z_xP zt112 15 50 [some (.ref 4), some (.int p1), some (.int p2), some (.int p3), some (.int p4), some (.int p5), some (.ref a22), some (.ref a32), some (.int (-1))] [.int (-1)] rfl rfl ?_
        have qm1 : (((-1) : Int32)).toInt = (-1) := rfl
        exact z_xri zt112 16 rfl zzr112 (kk (-1) M0 X (Or.inl ⟨rfl, by unfold z_vW2; omega⟩))
      refine z_xP zt64 2 6 [some (.int p5)] [.int 1, .int p5] rfl rfl ?_
      refine z_xJ zt64 3 rfl rfl (fun (h91 : p5.toInt ≠ 1) => ?_) (fun (h91 : p5.toInt = 1) => ?_)
      · skip
        refine z_xP zt64 5 14 [some (.int p5)] [.int 0] rfl rfl ?_
        refine z_xrz zt64 6 rfl zzr64 (by decide) (by decide) ?_
        show z_ev (d + 5) 112 29 [some (.ref 4), some (.int p1), some (.int p2), some (.int p3), some (.int p4), some (.int p5), some (.ref a22), some (.ref a32), none] [.int 0] M0 _
        refine z_xZ zt112 8 rfl rfl (fun (h92 : (0 : Int) ≠ 0) => absurd h92 (by omega)) (fun (h92 : (0 : Int) = 0) => ?_)
        refine z_xP zt112 9 33 [some (.ref 4), some (.int p1), some (.int p2), some (.int p3), some (.int p4), some (.int p5), some (.ref a22), some (.ref a32), none] [.int (-1)] rfl rfl ?_
        have qm1 : (((-1) : Int32)).toInt = (-1) := rfl
        exact z_xri zt112 10 rfl zzr112 (kk (-1) M0 X (Or.inl ⟨rfl, by unfold z_vW2; omega⟩))
      refine z_xP zt64 4 14 [some (.int p5)] [.int 1] rfl rfl ?_
      refine z_xrz zt64 6 rfl zzr64 (by decide) (by decide) ?_
      show z_ev (d + 5) 112 29 [some (.ref 4), some (.int p1), some (.int p2), some (.int p3), some (.int p4), some (.int p5), some (.ref a22), some (.ref a32), none] [.int 1] M0 _
      refine z_xZ zt112 8 rfl rfl (fun (h93 : (1 : Int) ≠ 0) => ?_) (fun (h93 : (1 : Int) = 0) => absurd h93 (by omega))
      refine z_xP zt112 11 38 [some (.ref 4), some (.int p1), some (.int p2), some (.int p3), some (.int p4), some (.int p5), some (.ref a22), some (.ref a32), none] [.int p4, .int p3, .ref 4] rfl rfl ?_
      refine z_xcV (vs := [.ref 4, .int p3, .int p4]) (r := []) (L2 := [some (.ref 4), some (.int p3), some (.int p4), none]) zt112 12 rfl zo112 zzcV0_241 (Or.inl rfl) rfl X f4 rfl rfl rfl (Nat.le_of_ble_eq_true rfl) zzm103 (Nat.le_of_ble_eq_true rfl) rfl ?_
      refine z_xP zt103 0 2 [some (.ref 4), some (.int p3), some (.int p4), none] [.int p3, .ref 4] rfl rfl ?_
      refine z_xcV (vs := [.ref 4, .int p3]) (r := []) (L2 := [some (.ref 4), some (.int p3)]) zt103 1 rfl zo103 zzcV0_108 (Or.inl rfl) rfl X f4 rfl rfl rfl (Nat.le_of_ble_eq_true rfl) zzm37 (Nat.le_of_ble_eq_true rfl) rfl ?_
      refine z_xP zt37 0 1 [some (.ref 4), some (.int p3)] [.int p3] rfl rfl ?_
      refine z_xZ zt37 1 rfl rfl (fun (h94 : p3.toInt < 0) => ?_) (fun (h94 : 0 ≤ p3.toInt) => ?_)
      · skip
        refine z_xP zt37 5 25 [some (.ref 4), some (.int p3)] [.null] rfl rfl ?_
        refine z_xrn zt37 11 rfl zzr37 ?_
        show z_ev (d + 4) 103 5 [some (.ref 4), some (.int p3), some (.int p4), none] [.null] M0 _
        refine z_xP zt103 2 20 [some (.ref 4), some (.int p3), some (.int p4), some (.null)] [] rfl rfl ?_
        refine z_xP zt103 7 21 [some (.ref 4), some (.int p3), some (.int p4), some (.null)] [.int (-1)] rfl rfl ?_
        refine z_xri zt103 8 rfl zzr103 ?_
        show z_ev (d + 5) 112 41 [some (.ref 4), some (.int p1), some (.int p2), some (.int p3), some (.int p4), some (.int p5), some (.ref a22), some (.ref a32), none] [.int (-1)] M0 _
        refine z_xP zt112 13 45 [some (.ref 4), some (.int p1), some (.int p2), some (.int p3), some (.int p4), some (.int p5), some (.ref a22), some (.ref a32), some (.int (-1))] [.int (-1)] rfl rfl ?_
        refine z_xZ zt112 14 rfl rfl (fun (h95 : ((-1) : Int) = 0) => absurd h95 (by omega)) (fun (h95 : ((-1) : Int) ≠ 0) => ?_)
        refine z_xP zt112 15 50 [some (.ref 4), some (.int p1), some (.int p2), some (.int p3), some (.int p4), some (.int p5), some (.ref a22), some (.ref a32), some (.int (-1))] [.int (-1)] rfl rfl ?_
        have qm1 : (((-1) : Int32)).toInt = (-1) := rfl
        exact z_xri zt112 16 rfl zzr112 (kk (-1) M0 X (Or.inl ⟨rfl, by unfold z_vW2; omega⟩))
      refine z_xP zt37 2 6 [some (.ref 4), some (.int p3)] [.ref 4, .int p3] rfl rfl ?_
      refine z_xgI zt37 3 rfl zo37 zzf0_59 X f4 (by decide) (by decide) rfl (fun (x97 : Int32) h96 (h98 : 0 ≤ x97.toInt) (h99 : x97.toInt ≤ 8) => ?_)
      have ex97 : (z_Fv M0 4 3).toInt = x97.toInt := by rw [z_Fv.of h96]
      have h100 := z_b32 p3
      refine z_xJ zt37 4 rfl rfl (fun (h101 : p3.toInt < x97.toInt) => ?_) (fun (h101 : x97.toInt ≤ p3.toInt) => ?_)
      · skip
        refine z_xP zt37 6 17 [some (.ref 4), some (.int p3)] [.ref 4] rfl rfl ?_
        refine z_xgX (b := 10) zt37 7 rfl zo37 zzf0_18 X f4 (by decide) (by decide) rfl ?_
        refine z_xP zt37 8 21 [some (.ref 4), some (.int p3)] [.int p3, .ref 10] rfl rfl ?_
        have f10 : T[10]? = some (.inr (10, 2, 8, 9, 0)) := X.1.k rfl (by decide)
        refine z_xal zt37 9 rfl X f10 (by decide) (by decide) (by decide) (by omega) (by omega) (fun (a102 : Nat) h103 h104 => ?_) (fun h105 => absurd h105 (z_Gs (hG.go X (by decide)).2.1 h96 (by omega) (by omega)))
        obtain ⟨q106, t107, m108, k109⟩ : ∃ q t m, T[a102]? = some (.inl (3, q, t, m, 9)) := h104
        have g110 := X.1.p3 k109
        have hv : z_vW2 M0 p1 p2 p3 := by unfold z_vW2; omega
        obtain ⟨⟨hcp1, owp1, kwp1, fsp1, fcp1⟩, ⟨hcp2, owp2, kwp2, fsp2, fcp2⟩, hAB, ⟨ob2, kb2, fN, hlz⟩, ⟨hsa, ksa, hSS⟩, hA, hm, hbk⟩ := hD hv
        obtain ⟨eq0, em0⟩ : q106 = q ∧ m108 = m := by
          have e := hAB.2.1
          rw [← show a102 = b from Option.some.inj (h103.symm.trans hAB.1), k109] at e
          cases e
          exact ⟨rfl, rfl⟩
        refine z_xgR (κ := .inl (2, q106, t107, m108, 0)) zt37 10 rfl zo37 zzf0_89 X k109 (by decide) (by decide) rfl (fun (a112 : Nat) h111 k113 => ?_)
        have g114 := X.1.p2 k113
        refine z_xra zt37 11 rfl zzr37 ?_
        show z_ev (d + 4) 103 5 [some (.ref 4), some (.int p3), some (.int p4), none] [.ref a112] M0 _
        refine z_xP zt103 2 10 [some (.ref 4), some (.int p3), some (.int p4), some (.ref a112)] [] rfl rfl ?_
        refine z_xP zt103 3 12 [some (.ref 4), some (.int p3), some (.int p4), some (.ref a112)] [.int 1, .int p4] rfl rfl ?_
        refine z_xJ zt103 4 rfl rfl (fun (h115 : p4.toInt < 1) => ?_) (fun (h115 : 1 ≤ p4.toInt) => ?_)
        · skip
          refine z_xP zt103 7 21 [some (.ref 4), some (.int p3), some (.int p4), some (.ref a112)] [.int (-1)] rfl rfl ?_
          refine z_xri zt103 8 rfl zzr103 ?_
          show z_ev (d + 5) 112 41 [some (.ref 4), some (.int p1), some (.int p2), some (.int p3), some (.int p4), some (.int p5), some (.ref a22), some (.ref a32), none] [.int (-1)] M0 _
          refine z_xP zt112 13 45 [some (.ref 4), some (.int p1), some (.int p2), some (.int p3), some (.int p4), some (.int p5), some (.ref a22), some (.ref a32), some (.int (-1))] [.int (-1)] rfl rfl ?_
          refine z_xZ zt112 14 rfl rfl (fun (h116 : ((-1) : Int) = 0) => absurd h116 (by omega)) (fun (h116 : ((-1) : Int) ≠ 0) => ?_)
          refine z_xP zt112 15 50 [some (.ref 4), some (.int p1), some (.int p2), some (.int p3), some (.int p4), some (.int p5), some (.ref a22), some (.ref a32), some (.int (-1))] [.int (-1)] rfl rfl ?_
          have qm1 : (((-1) : Int32)).toInt = (-1) := rfl
          exact z_xri zt112 16 rfl zzr112 (kk (-1) M0 X (Or.inl ⟨rfl, by unfold z_vW2; omega⟩))
        refine z_xP zt103 5 17 [some (.ref 4), some (.int p3), some (.int p4), some (.ref a112)] [.int 5, .int p4] rfl rfl ?_
        refine z_xJ zt103 6 rfl rfl (fun (h117 : p4.toInt ≤ 5) => ?_) (fun (h117 : 5 < p4.toInt) => ?_)
        · skip
          refine z_xP zt103 9 23 [some (.ref 4), some (.int p3), some (.int p4), some (.ref a112)] [.ref a112] rfl rfl ?_
          refine z_xgR (κ := .inr (102, 0, m108, 0, 1023)) zt103 10 rfl zo103 zzf0_74 X k113 (by decide) (by decide) rfl (fun (a119 : Nat) h118 k120 => ?_)
          refine z_xln zt103 11 rfl X k120 (by decide) (by omega) (fun (x121 : Int32) (h122 : x121.toInt = ((m108 : Nat) : Int)) => ?_)
          refine z_xP zt103 12 29 [some (.ref 4), some (.int p3), some (.int p4), some (.ref a112)] [.int 12, .int x121] rfl rfl ?_
          refine z_xJ zt103 13 rfl rfl (fun (h123 : x121.toInt ≤ 12) => ?_) (fun (h123 : 12 < x121.toInt) => ?_)
          · skip
            refine z_xP zt103 15 38 [some (.ref 4), some (.int p3), some (.int p4), some (.ref a112)] [.int 0] rfl rfl ?_
            refine z_xri zt103 16 rfl zzr103 ?_
            show z_ev (d + 5) 112 41 [some (.ref 4), some (.int p1), some (.int p2), some (.int p3), some (.int p4), some (.int p5), some (.ref a22), some (.ref a32), none] [.int 0] M0 _
            refine z_xP zt112 13 45 [some (.ref 4), some (.int p1), some (.int p2), some (.int p3), some (.int p4), some (.int p5), some (.ref a22), some (.ref a32), some (.int 0)] [.int 0] rfl rfl ?_
            refine z_xZ zt112 14 rfl rfl (fun (h124 : (0 : Int) = 0) => ?_) (fun (h124 : (0 : Int) ≠ 0) => absurd h124 (by omega))
            refine z_xP zt112 17 56 [some (.ref 4), some (.int p1), some (.int p2), some (.int p3), some (.int p4), some (.int p5), some (.ref a22), some (.ref a32), some (.int 0)] [.ref 4, .ref a32, .ref a22] rfl rfl ?_
            refine z_xgX (b := 11) zt112 18 rfl zo112 zzf0_22 X f4 (by decide) (by decide) rfl ?_
            refine z_xP zt112 19 60 [some (.ref 4), some (.int p1), some (.int p2), some (.int p3), some (.int p4), some (.int p5), some (.ref a22), some (.ref a32), some (.int 0)] [.int p3, .ref 11, .ref a32, .ref a22] rfl rfl ?_
            have f11 : T[11]? = some (.inr (11, 2, 8, 5, 0)) := X.1.k rfl (by decide)
            refine z_xal zt112 20 rfl X f11 (by decide) (by decide) (by decide) (by omega) (by omega) (fun (a125 : Nat) h126 h127 => ?_) (fun h128 => absurd h128 (z_Gt (hG.go X (by decide)).2.1 h96 (by omega) (by omega)))
            obtain ⟨q129, t130, m131, k132⟩ : ∃ q t m, T[a125]? = some (.inl (3, q, t, m, 5)) := h127
            have g133 := X.1.p3 k132
            have h134 := z_Gm (hG.go X (by decide)).2.2 X.1 (z_cll (n := 8) (by omega) (by decide)) h103 h126 k109 k132
            refine z_xP zt112 21 66 [some (.ref 4), some (.int p1), some (.int p2), some (.int p3), some (.int p4), some (.int p5), some (.ref a22), some (.ref a32), some (.int 0)] [.int 1, .int p5, .int p4, .ref a125, .ref a32, .ref a22] rfl rfl ?_
            refine z_xJ zt112 22 rfl rfl (fun (h135 : p5.toInt ≠ 1) => absurd h135 (by omega)) (fun (h135 : p5.toInt = 1) => ?_)
            refine z_xP zt112 23 74 [some (.ref 4), some (.int p1), some (.int p2), some (.int p3), some (.int p4), some (.int p5), some (.ref a22), some (.ref a32), some (.int 0)] [.int 1, .int p4, .ref a125, .ref a32, .ref a22] rfl rfl ?_
            refine z_xcV (vs := [.ref a22, .ref a32, .ref a125, .int p4, .int 1]) (r := []) (L2 := [some (.ref a22), some (.ref a32), some (.ref a125), some (.int p4), some (.int 1), none, none, none]) zt112 25 rfl zo112 zzcV0_252 (Or.inr rfl) rfl X k28 (z_w8 (fun c => (([(4, 113), (10, 113), (7, 113), (5, 113), (11, 113), (8, 113), (6, 113), (9, 113)] : List (Nat × Nat)).find? fun t => t.1 == c) = some (c, 113)) rfl rfl rfl rfl rfl rfl rfl rfl w27) rfl rfl (Nat.le_of_ble_eq_true rfl) zzm113 (Nat.le_of_ble_eq_true rfl) rfl ?_
            have q1 : ((1 : Int32)).toInt = 1 := rfl
            have q1 : ((1 : Int32)).toInt = 1 := rfl
            have ea22 : a22 = w := Option.some.inj (h23.symm.trans owp1)
            have ea32 : a32 = w2 := Option.some.inj (h33.symm.trans owp2)
            have ea125 : a125 = b2 := Option.some.inj (h126.symm.trans ob2)
            refine zUC113 X.1 hcp1 (by rw [ea22]; exact kwp1) hcp2 (by rw [ea32]; exact kwp2) (by rw [ea125]; exact kb2) (by omega) (by decide) hbk (by rw [ea125]; exact fN) hAB.2.2.2.1 hsa ksa hSS hA (by rw [ea125]; exact hlz) hch ⟨hAB.2.2.2.2.2.2.1.2, hAB.2.2.2.2.2.2.2.1.2⟩ (by rw [ea22]; exact fsp1) (by rw [ea22]; exact fcp1) (by rw [ea32]; exact fsp2) (by rw [ea32]; exact fcp2) ⟨hm.1, by omega⟩ (fun x138 M136 X137 hka _ => ?_)
            have X139 := X.go X137 (z_sb (by decide))
            show z_ev (d + 5) 112 77 [some (.ref 4), some (.int p1), some (.int p2), some (.int p3), some (.int p4), some (.int p5), some (.ref a22), some (.ref a32), some (.int 0)] [.int x138] M136 _
            exact z_xri zt112 26 rfl zzr112 (kk x138 M136 X139 (Or.inr ⟨⟨hv, by omega⟩, Or.inr ⟨by omega, by rw [h91]; exact hka⟩⟩))
          refine z_xP zt103 14 38 [some (.ref 4), some (.int p3), some (.int p4), some (.ref a112)] [.int (-4)] rfl rfl ?_
          refine z_xri zt103 16 rfl zzr103 ?_
          show z_ev (d + 5) 112 41 [some (.ref 4), some (.int p1), some (.int p2), some (.int p3), some (.int p4), some (.int p5), some (.ref a22), some (.ref a32), none] [.int (-4)] M0 _
          refine z_xP zt112 13 45 [some (.ref 4), some (.int p1), some (.int p2), some (.int p3), some (.int p4), some (.int p5), some (.ref a22), some (.ref a32), some (.int (-4))] [.int (-4)] rfl rfl ?_
          refine z_xZ zt112 14 rfl rfl (fun (h141 : ((-4) : Int) = 0) => absurd h141 (by omega)) (fun (h141 : ((-4) : Int) ≠ 0) => ?_)
          refine z_xP zt112 15 50 [some (.ref 4), some (.int p1), some (.int p2), some (.int p3), some (.int p4), some (.int p5), some (.ref a22), some (.ref a32), some (.int (-4))] [.int (-4)] rfl rfl ?_
          have qm4 : (((-4) : Int32)).toInt = (-4) := rfl
          exact z_xri zt112 16 rfl zzr112 (kk (-4) M0 X (Or.inr ⟨⟨hv, by omega⟩, Or.inl ⟨rfl, by omega⟩⟩))
        refine z_xP zt103 7 21 [some (.ref 4), some (.int p3), some (.int p4), some (.ref a112)] [.int (-1)] rfl rfl ?_
        refine z_xri zt103 8 rfl zzr103 ?_
        show z_ev (d + 5) 112 41 [some (.ref 4), some (.int p1), some (.int p2), some (.int p3), some (.int p4), some (.int p5), some (.ref a22), some (.ref a32), none] [.int (-1)] M0 _
        refine z_xP zt112 13 45 [some (.ref 4), some (.int p1), some (.int p2), some (.int p3), some (.int p4), some (.int p5), some (.ref a22), some (.ref a32), some (.int (-1))] [.int (-1)] rfl rfl ?_
        refine z_xZ zt112 14 rfl rfl (fun (h142 : ((-1) : Int) = 0) => absurd h142 (by omega)) (fun (h142 : ((-1) : Int) ≠ 0) => ?_)
        refine z_xP zt112 15 50 [some (.ref 4), some (.int p1), some (.int p2), some (.int p3), some (.int p4), some (.int p5), some (.ref a22), some (.ref a32), some (.int (-1))] [.int (-1)] rfl rfl ?_
        have qm1 : (((-1) : Int32)).toInt = (-1) := rfl
        exact z_xri zt112 16 rfl zzr112 (kk (-1) M0 X (Or.inl ⟨rfl, by unfold z_vW2; omega⟩))
      refine z_xP zt37 5 25 [some (.ref 4), some (.int p3)] [.null] rfl rfl ?_
      refine z_xrn zt37 11 rfl zzr37 ?_
      show z_ev (d + 4) 103 5 [some (.ref 4), some (.int p3), some (.int p4), none] [.null] M0 _
      refine z_xP zt103 2 20 [some (.ref 4), some (.int p3), some (.int p4), some (.null)] [] rfl rfl ?_
      refine z_xP zt103 7 21 [some (.ref 4), some (.int p3), some (.int p4), some (.null)] [.int (-1)] rfl rfl ?_
      refine z_xri zt103 8 rfl zzr103 ?_
      show z_ev (d + 5) 112 41 [some (.ref 4), some (.int p1), some (.int p2), some (.int p3), some (.int p4), some (.int p5), some (.ref a22), some (.ref a32), none] [.int (-1)] M0 _
      refine z_xP zt112 13 45 [some (.ref 4), some (.int p1), some (.int p2), some (.int p3), some (.int p4), some (.int p5), some (.ref a22), some (.ref a32), some (.int (-1))] [.int (-1)] rfl rfl ?_
      refine z_xZ zt112 14 rfl rfl (fun (h143 : ((-1) : Int) = 0) => absurd h143 (by omega)) (fun (h143 : ((-1) : Int) ≠ 0) => ?_)
      refine z_xP zt112 15 50 [some (.ref 4), some (.int p1), some (.int p2), some (.int p3), some (.int p4), some (.int p5), some (.ref a22), some (.ref a32), some (.int (-1))] [.int (-1)] rfl rfl ?_
      have qm1 : (((-1) : Int32)).toInt = (-1) := rfl
      exact z_xri zt112 16 rfl zzr112 (kk (-1) M0 X (Or.inl ⟨rfl, by unfold z_vW2; omega⟩))
    refine z_xP zt84 5 22 [some (.ref 4), some (.int p2)] [.null] rfl rfl ?_
    refine z_xrn zt84 10 rfl zzr84 ?_
    show z_ev (d + 5) 112 12 [some (.ref 4), some (.int p1), some (.int p2), some (.int p3), some (.int p4), some (.int p5), some (.ref a22), none, none] [.null] M0 _
    refine z_xP zt112 4 19 [some (.ref 4), some (.int p1), some (.int p2), some (.int p3), some (.int p4), some (.int p5), some (.ref a22), some (.null), none] [] rfl rfl ?_
    refine z_xP zt112 5 32 [some (.ref 4), some (.int p1), some (.int p2), some (.int p3), some (.int p4), some (.int p5), some (.ref a22), some (.null), none] [] rfl rfl ?_
    refine z_xP zt112 9 33 [some (.ref 4), some (.int p1), some (.int p2), some (.int p3), some (.int p4), some (.int p5), some (.ref a22), some (.null), none] [.int (-1)] rfl rfl ?_
    have qm1 : (((-1) : Int32)).toInt = (-1) := rfl
    exact z_xri zt112 10 rfl zzr112 (kk (-1) M0 X (Or.inl ⟨rfl, by unfold z_vW2; omega⟩))
  refine z_xP zt84 5 22 [some (.ref 4), some (.int p1)] [.null] rfl rfl ?_
  refine z_xrn zt84 10 rfl zzr84 ?_
  show z_ev (d + 5) 112 5 [some (.ref 4), some (.int p1), some (.int p2), some (.int p3), some (.int p4), some (.int p5), none, none, none] [.null] M0 _
  refine z_xP zt112 2 9 [some (.ref 4), some (.int p1), some (.int p2), some (.int p3), some (.int p4), some (.int p5), some (.null), none, none] [.int p2, .ref 4] rfl rfl ?_
  refine z_xcV (vs := [.ref 4, .int p2]) (r := []) (L2 := [some (.ref 4), some (.int p2)]) zt112 3 rfl zo112 zzcV0_221 (Or.inl rfl) rfl X f4 rfl rfl rfl (Nat.le_of_ble_eq_true rfl) zzm84 (Nat.le_of_ble_eq_true rfl) rfl ?_
  refine z_xP zt84 0 1 [some (.ref 4), some (.int p2)] [.int p2] rfl rfl ?_
  refine z_xZ zt84 1 rfl rfl (fun (h144 : p2.toInt < 0) => ?_) (fun (h144 : 0 ≤ p2.toInt) => ?_)
  · skip
    refine z_xP zt84 5 22 [some (.ref 4), some (.int p2)] [.null] rfl rfl ?_
    refine z_xrn zt84 10 rfl zzr84 ?_
    show z_ev (d + 5) 112 12 [some (.ref 4), some (.int p1), some (.int p2), some (.int p3), some (.int p4), some (.int p5), some (.null), none, none] [.null] M0 _
    refine z_xP zt112 4 32 [some (.ref 4), some (.int p1), some (.int p2), some (.int p3), some (.int p4), some (.int p5), some (.null), some (.null), none] [] rfl rfl ?_
    refine z_xP zt112 9 33 [some (.ref 4), some (.int p1), some (.int p2), some (.int p3), some (.int p4), some (.int p5), some (.null), some (.null), none] [.int (-1)] rfl rfl ?_
    have qm1 : (((-1) : Int32)).toInt = (-1) := rfl
    exact z_xri zt112 10 rfl zzr112 (kk (-1) M0 X (Or.inl ⟨rfl, by unfold z_vW2; omega⟩))
  refine z_xP zt84 2 6 [some (.ref 4), some (.int p2)] [.ref 4, .int p2] rfl rfl ?_
  refine z_xgv zt84 3 rfl zo84 zzf0_188 X f4 (by decide) h16 ?_
  have h145 := z_b32 p2
  refine z_xJ zt84 4 rfl rfl (fun (h146 : p2.toInt < x17.toInt) => ?_) (fun (h146 : x17.toInt ≤ p2.toInt) => ?_)
  · skip
    refine z_xP zt84 6 17 [some (.ref 4), some (.int p2)] [.ref 4] rfl rfl ?_
    refine z_xgX (b := 12) zt84 7 rfl zo84 zzf0_27 X f4 (by decide) (by decide) rfl ?_
    refine z_xP zt84 8 21 [some (.ref 4), some (.int p2)] [.int p2, .ref 12] rfl rfl ?_
    have f12 : T[12]? = some (.inr (12, 3, 20, 0, 0)) := X.1.k rfl (by decide)
    refine z_xal zt84 9 rfl X f12 (by decide) (by decide) (by decide) (by omega) (by omega) (fun (a147 : Nat) h148 h149 => ?_) (fun h150 => absurd h150 (z_Gb (hG.go X (by decide)).2.1 h16 (by omega) (by omega)))
    obtain ⟨c151, w152l, w152u, k153⟩ : ∃ ci, 4 ≤ ci ∧ ci ≤ 11 ∧ T[a147]? = some (.inl (ci, 0, 0, 0, 0)) := h149
    have w152 := And.intro w152l w152u
    refine z_xra zt84 10 rfl zzr84 ?_
    show z_ev (d + 5) 112 12 [some (.ref 4), some (.int p1), some (.int p2), some (.int p3), some (.int p4), some (.int p5), some (.null), none, none] [.ref a147] M0 _
    refine z_xP zt112 4 32 [some (.ref 4), some (.int p1), some (.int p2), some (.int p3), some (.int p4), some (.int p5), some (.null), some (.ref a147), none] [] rfl rfl ?_
    refine z_xP zt112 9 33 [some (.ref 4), some (.int p1), some (.int p2), some (.int p3), some (.int p4), some (.int p5), some (.null), some (.ref a147), none] [.int (-1)] rfl rfl ?_
    have qm1 : (((-1) : Int32)).toInt = (-1) := rfl
    exact z_xri zt112 10 rfl zzr112 (kk (-1) M0 X (Or.inl ⟨rfl, by unfold z_vW2; omega⟩))
  refine z_xP zt84 5 22 [some (.ref 4), some (.int p2)] [.null] rfl rfl ?_
  refine z_xrn zt84 10 rfl zzr84 ?_
  show z_ev (d + 5) 112 12 [some (.ref 4), some (.int p1), some (.int p2), some (.int p3), some (.int p4), some (.int p5), some (.null), none, none] [.null] M0 _
  refine z_xP zt112 4 32 [some (.ref 4), some (.int p1), some (.int p2), some (.int p3), some (.int p4), some (.int p5), some (.null), some (.null), none] [] rfl rfl ?_
  refine z_xP zt112 9 33 [some (.ref 4), some (.int p1), some (.int p2), some (.int p3), some (.int p4), some (.int p5), some (.null), some (.null), none] [.int (-1)] rfl rfl ?_
  have qm1 : (((-1) : Int32)).toInt = (-1) := rfl
  exact z_xri zt112 10 rfl zzr112 (kk (-1) M0 X (Or.inl ⟨rfl, by unfold z_vW2; omega⟩))
