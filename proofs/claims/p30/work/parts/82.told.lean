/-! told, with what its words hold -/
section ZH
variable {bb : Nat → Int} {nn : Nat} {nu : Int → Int} {ts : Nat → Nat}
/-- the tape stands ready: a tie can be read for the sets of a block -/
def z_rdy (bb : Nat → Int) (nn : Nat) (nu : Int → Int) (t : Nat) (ts : Nat → Nat) (M : zH) (BB : Nat) : Prop := z_TP M bb nn nu BB ∧ z_ok M ∧ ∀ i : Nat, i < t → (z_Ar M 8 i).toInt = (ts i : Int)
theorem z_rdy.ke {t BB : Nat} {M M1 M' : zH} {T : List zK} {rs : List Nat} (h : z_rdy bb nn nu t ts M BB) (hW : z_W M' T) (hX : z_ke T rs M M1) (hr : z_dj [2, 6, 7, 8, 1101, 1103] rs = true) {B2 : Nat} (hB : (z_Fv M1 5 10).toInt = (B2 : Int)) : z_rdy bb nn nu t ts M1 B2 := by
  obtain ⟨⟨h1, h2, h3, h4, h5, h6, h7⟩, hk, h8⟩ := h
  have nr := z_djn hr
  have k5 : T[5]? = some (.inl (1, 0, 0, 0, 0)) := hW.k rfl (by decide)
  have k6 := hW.k (k := 6) (κ := z_af 6 160) rfl (by decide)
  have k7 := hW.k (k := 7) (κ := z_ai 7 10 (-1) 9) rfl (by decide)
  have k8 : T[8]? = some (.inr (8, 0, 8, 0, 160)) := hW.k rfl (by decide)
  have k2 := hW.k (k := 2) (κ := z_al 2 6) rfl (by decide)
  have e1 : z_Fv M1 5 1 = z_Fv M 5 1 := by unfold z_Fv; rw [hX.1 5 1 0 0 0 0 1 k5 (nr _ (by decide))]
  have e3 : z_Fv M1 5 3 = z_Fv M 5 3 := by unfold z_Fv; rw [hX.1 5 1 0 0 0 0 3 k5 (nr _ (by decide))]
  refine ⟨⟨fun k => ?_, ?_, h3, fun k hk => ?_, h5, hB, fun q hq => ?_⟩, ?_, fun i hi => ?_⟩
  · rw [hX.a k6 (nr _ (by decide))]; exact h1 k
  · rw [e1]; exact h2
  · rw [hX.a k7 (nr _ (by decide))]; exact h4 k hk
  · rw [hX.lg k2 (nr _ (by decide))]; exact h7 q hq
  · unfold z_ok; rw [e3]; exact hk
  · rw [hX.a k8 (nr _ (by decide))]; exact h8 i hi
theorem z_rdy.go {t BB : Nat} {M M1 M' : zH} {T : List zK} {rs : List Nat} (h : z_rdy bb nn nu t ts M BB) (hW : z_W M' T) (hX : z_ke T rs M M1) (hr : z_dj [2, 6, 7, 8, 1101, 1103] rs = true) (h10 : ¬ 1110 ∈ rs) : z_rdy bb nn nu t ts M1 BB := by
  have k5 : T[5]? = some (.inl (1, 0, 0, 0, 0)) := hW.k rfl (by decide)
  have e : z_Fv M1 5 10 = z_Fv M 5 10 := by unfold z_Fv; rw [hX.1 5 1 0 0 0 0 10 k5 h10]
  exact h.ke hW hX hr (by rw [e]; exact h.1.2.2.2.2.2.1)
/-- told: the inner loop -/
theorem zH22i {T : List zK} {d q t kp : Nat} {bl tv : Int32} {w : Int64} {M0 : zH} {K : Option Value → zH → Prop} (k5 : T[5]? = some (.inl (1, 0, 0, 0, 0))) (k8 : T[8]? = some (.inr (8, 0, 8, 0, 160))) (kp8 : T[kp]? = some (.inr (108, 1, t * z_bl q, 0, 0))) (hkp : 4 ≤ kp) (hbl : bl.toInt = ((z_bl q : Nat) : Int)) (hb1 : z_bl q ≤ 16) (htv : tv.toInt = (t : Int)) (ht8 : t ≤ 8) {b : Int32} (b0 : 0 ≤ b.toInt) (b1 : b.toInt < bl.toInt) (hts : ∀ i, i < t → z_ti bb nn (z_one bb nn nu 6) (ts i) ≠ none ∧ ts i ≤ nn) {T0 : List zK} (hp0 : ∀ (a : Nat) (κ : zK), T0[a]? = some κ → T[a]? = some κ) (n0 : T0[kp]? = none) (hT : ∀ (x : Int32) (M : zH), z_X T zw22 M0 M → z_ke T0 [9, 1102, 1103, 1110] M0 M → z_F M 5 7 = some (.int tv) → z_rdy bb nn nu t ts M b.toInt.toNat → z_kw bb nn nu ts w (z_bl q) t (z_Lg M kp) (b.toInt.toNat + 1) 0 → z_ev (d + 32) 22 120 [some (.ref 5), some (.int bl), some (.long w), none, some (.ref kp), some (.int b), some (.int x)] [] M K) : ∀ (n : Nat) (x : Int32) (M : zH), z_X T zw22 M0 M → z_ke T0 [9, 1102, 1103, 1110] M0 M → z_F M 5 7 = some (.int tv) → z_rdy bb nn nu t ts M b.toInt.toNat → z_kw bb nn nu ts w (z_bl q) t (z_Lg M kp) b.toInt.toNat x.toInt.toNat → 0 ≤ x.toInt → tv.toInt - x.toInt < (n : Int) → x.toInt ≤ tv.toInt → z_ev (d + 32) 22 77 [some (.ref 5), some (.int bl), some (.long w), none, some (.ref kp), some (.int b), some (.int x)] [] M K := by
  intro n
  induction n with
  | zero => intros; exfalso; omega
  | succ n ih =>
    intro x M X hO hF hR hk x0 hn xt
    refine z_xP zt22 34 80 [some (.ref 5), some (.int bl), some (.long w), none, some (.ref kp), some (.int b), some (.int x)] [.ref 5, .int x] rfl rfl ?_
    refine z_xgv zt22 35 rfl zo22 zzf1_38 X k5 (by decide) hF ?_
    refine z_xJ zt22 36 rfl rfl (fun (h1 : tv.toInt ≤ x.toInt) => ?_) (fun (h1 : x.toInt < tv.toInt) => ?_)
    · exact hT x M X hO hF hR (z_kwN hk (by omega))
    refine z_xP zt22 37 88 [some (.ref 5), some (.int bl), some (.long w), none, some (.ref kp), some (.int b), some (.int x)] [.ref 5, .ref 5] rfl rfl ?_
    refine z_xgX (b := 8) zt22 38 rfl zo22 zzf1_18 X k5 (by decide) (by decide) rfl ?_
    refine z_xP zt22 39 93 [some (.ref 5), some (.int bl), some (.long w), none, some (.ref kp), some (.int b), some (.int x)] [.int x, .ref 8, .ref 5] rfl rfl ?_
    refine z_xil zt22 40 rfl X k8 (by decide) (by omega) (by omega) (fun (y : Int32) hy (y0 : 0 ≤ y.toInt) (y1 : y.toInt ≤ 160) => ?_)
    refine z_xpf zt22 41 rfl zo22 zzf1_29 X k5 (by decide) (by decide) ⟨by omega, by omega⟩ rfl (by decide) zw1_2 (fun M1 X1 e1 h1b => ?_)
    have hF1 := e1.f k5 (by decide) hF
    have hti := hts x.toInt.toNat (by omega)
    have eat : z_atN M1 = ts x.toInt.toNat := by
      have e := hR.2.2 x.toInt.toNat (by omega)
      rw [show x.toInt.toNat = x.toNatClampNeg from rfl, hy] at e
      rw [z_atF h1b, show x.toInt.toNat = x.toNatClampNeg from rfl]
      omega
    have hR1 := hR.go X.1 e1 rfl (by decide)
    refine z_xP zt22 42 102 [some (.ref 5), some (.int bl), some (.long w), none, some (.ref kp), some (.int b), some (.int x)] [.int bl, .int x, .ref kp] rfl rfl ?_
    refine z_xI zt22 43 rfl rfl (fun (z : Int32) (hz : z.toInt = x.toInt * bl.toInt ∧ 0 ≤ z.toInt ∧ z.toInt ≤ 128) => ?_) (z_pMulB (a := 8) (b := 16) rfl rfl (by omega) (by omega) (by omega) (by omega) (by decide) (by decide))
    refine z_xP zt22 44 105 [some (.ref 5), some (.int bl), some (.long w), none, some (.ref kp), some (.int b), some (.int x)] [.int b, .int z, .ref kp] rfl rfl ?_
    refine z_xI zt22 45 rfl rfl (fun (s : Int32) (hs : s.toInt = z.toInt + b.toInt) => ?_) (z_pAdd rfl rfl (by omega) (by omega))
    have hs2 := z_nlx (A := t) (B := z_bl q) hz.1 hbl hs (by omega) (by omega) (by omega) (by omega)
    refine z_xP zt22 46 108 [some (.ref 5), some (.int bl), some (.long w), none, some (.ref kp), some (.int b), some (.int x)] [.int 0, .ref 5, .int s, .ref kp] rfl rfl ?_
    refine z_xcV (vs := [.ref 5, .int 0]) (r := [.int s, .ref kp]) (L2 := [some (.ref 5), some (.int 0), none, none, none, none, none]) zt22 47 rfl zo22 zzcV1_77 (Or.inl rfl) rfl X1 k5 rfl rfl rfl (Nat.le_of_ble_eq_true rfl) zzm15 (Nat.le_of_ble_eq_true rfl) rfl ?_
    have q0 : ((0 : Int32)).toInt = 0 := rfl
    refine zTC15 (d := d) X1.1 ⟨by omega, by omega⟩ hR1.1 (fun y2 M2 X2 hC _ => ?_)
    obtain ⟨qq, f, c1, c2, c4⟩ : ∃ qq f, z_ti bb nn (z_one bb nn nu 6) (ts x.toInt.toNat) = some (qq, f) ∧ z_ok M2 ∧ z_bv y2 f b.toInt.toNat := by
      have e6 : 6 - (0 : Int32).toInt.toNat = 6 := rfl
      rw [e6, eat] at hC
      rcases hC.2 hR1.2.1 (by rw [eat]; exact hti.2) with ⟨c1, _⟩ | ⟨qq, f, c1, c2, c3, c4⟩
      · exact absurd c1 hti.1
      · exact ⟨qq, f, c1, c2, c4⟩
    show z_ev (d + 32) 22 111 [some (.ref 5), some (.int bl), some (.long w), none, some (.ref kp), some (.int b), some (.int x)] [.long y2, .int s, .ref kp] M2 _
    have X3 := X1.go X2 (z_sb (by decide))
    have hF2 := X2.2.f k5 (by decide) hF1
    have hR2 : z_rdy bb nn nu t ts M2 b.toInt.toNat := ⟨hR1.1.go X.1 X2 rfl, c2, fun i hi => by rw [X2.2.a k8 (by decide)]; exact hR1.2.2 i hi⟩
    have hL2 : z_Lg M2 kp = z_Lg M kp := (X2.2.lg kp8 (by decide)).trans (e1.lg kp8 (by decide))
    have es : s.toNatClampNeg = x.toInt.toNat * z_bl q + b.toInt.toNat := z_ixm hz.1 hbl x0 hs b0
    refine z_xP zt22 48 112 [some (.ref 5), some (.int bl), some (.long w), none, some (.ref kp), some (.int b), some (.int x)] [.long w, .long y2, .int s, .ref kp] rfl rfl ?_
    refine z_xL zt22 49 rfl rfl (fun (v : Int64) (hv : v = y2 &&& w) => ?_) rfl
    refine z_xlsn zt22 50 rfl X3 kp8 (by decide) hkp hs2.1 hs2.2 (by decide) (fun M4 X4 e4 h4 hne => ?_)
    rw [hL2, es] at h4
    have hk4 := z_kwS hk (by omega) h4 (z_tkvA c1 c4 hv)
    have hR4 := hR2.go X.1 e4 rfl (by decide)
    have hF4 := e4.f k5 (by decide) hF2
    have q1 : (1 : Int32).toInt = 1 := rfl
    refine z_xN (x := x) (P := fun x2 => x2.toInt = x.toInt + 1) zt22 51 rfl rfl (fun x2 hx2 => ?_) (z_pAdd rfl rfl (by omega) (by omega))
    show z_ev (d + 32) 22 117 [some (.ref 5), some (.int bl), some (.long w), none, some (.ref kp), some (.int b), some (.int x2)] [] M4 K
    refine z_xP zt22 52 77 [some (.ref 5), some (.int bl), some (.long w), none, some (.ref kp), some (.int b), some (.int x2)] [] rfl rfl ?_
    have ex2 : x2.toInt.toNat = x.toInt.toNat + 1 := by omega
    exact ih x2 M4 X4 (((hO.trans (e1.sub hp0) (z_sb (by decide))).trans (X2.2.sub hp0) (z_sb (by decide))).trans (z_ke.ne hne n0) (fun _ h => by cases h)) hF4 hR4 (by rw [ex2]; exact hk4) (by omega) (by omega) (by omega)
/-- told: the outer loop -/
theorem zH22o {T : List zK} {d q t kp : Nat} {bl tv : Int32} {w : Int64} {M0 : zH} {K : Option Value → zH → Prop} (k5 : T[5]? = some (.inl (1, 0, 0, 0, 0))) (k8 : T[8]? = some (.inr (8, 0, 8, 0, 160))) (kp8 : T[kp]? = some (.inr (108, 1, t * z_bl q, 0, 0))) (hkp : 4 ≤ kp) (hbl : bl.toInt = ((z_bl q : Nat) : Int)) (hb1 : z_bl q ≤ 16) (htv : tv.toInt = (t : Int)) (ht8 : t ≤ 8) (hts : ∀ i, i < t → z_ti bb nn (z_one bb nn nu 6) (ts i) ≠ none ∧ ts i ≤ nn) {T0 : List zK} (hp0 : ∀ (a : Nat) (κ : zK), T0[a]? = some κ → T[a]? = some κ) (n0 : T0[kp]? = none) (hT : ∀ (b : Int32) (o6 : Option Value) (M : zH), z_X T zw22 M0 M → z_ke T0 [9, 1102, 1103, 1110] M0 M → z_F M 5 7 = some (.int tv) → z_kw bb nn nu ts w (z_bl q) t (z_Lg M kp) (z_bl q) 0 → z_ev (d + 32) 22 126 [some (.ref 5), some (.int bl), some (.long w), none, some (.ref kp), some (.int b), o6] [] M K) : ∀ (n : Nat) (b : Int32) (o6 : Option Value) (M : zH), z_X T zw22 M0 M → z_ke T0 [9, 1102, 1103, 1110] M0 M → z_F M 5 7 = some (.int tv) → (∃ BB, z_rdy bb nn nu t ts M BB) → z_kw bb nn nu ts w (z_bl q) t (z_Lg M kp) b.toInt.toNat 0 → 0 ≤ b.toInt → bl.toInt - b.toInt < (n : Int) → b.toInt ≤ bl.toInt → z_ev (d + 32) 22 62 [some (.ref 5), some (.int bl), some (.long w), none, some (.ref kp), some (.int b), o6] [] M K := by
  intro n
  induction n with
  | zero => intros; exfalso; omega
  | succ n ih =>
    intro b o6 M X hO hF hRR hk b0 hn hbb
    obtain ⟨BB, hR⟩ := hRR
    refine z_xP zt22 29 65 [some (.ref 5), some (.int bl), some (.long w), none, some (.ref kp), some (.int b), o6] [.int bl, .int b] rfl rfl ?_
    refine z_xJ zt22 30 rfl rfl (fun (h1 : bl.toInt ≤ b.toInt) => ?_) (fun (h1 : b.toInt < bl.toInt) => ?_)
    · have e : b.toInt.toNat = z_bl q := by omega
      rw [e] at hk
      exact hT b o6 M X hO hF hk
    refine z_xP zt22 31 71 [some (.ref 5), some (.int bl), some (.long w), none, some (.ref kp), some (.int b), o6] [.int b, .ref 5] rfl rfl ?_
    refine z_xpf zt22 32 rfl zo22 zzf1_35 X k5 (by decide) (by decide) (z_full b) rfl (by decide) zw1_10 (fun M1 X1 e1 h1b => ?_)
    have hF1 := e1.f k5 (by decide) hF
    have hR1 : z_rdy bb nn nu t ts M1 b.toInt.toNat := hR.ke X.1 e1 rfl (by rw [z_Fv.of h1b]; omega)
    have hL1 : z_Lg M1 kp = z_Lg M kp := e1.lg kp8 (by decide)
    refine z_xP zt22 33 77 [some (.ref 5), some (.int bl), some (.long w), none, some (.ref kp), some (.int b), some (.int 0)] [] rfl rfl ?_
    have q0 : ((0 : Int32)).toInt = 0 := rfl
    have q1 : (1 : Int32).toInt = 1 := rfl
    refine zH22i k5 k8 kp8 hkp hbl hb1 htv ht8 b0 h1 hts hp0 n0 (fun x M2 X2 hO2 hF2 hR2 hk2 => ?_) 9 0 M1 X1 (hO.trans (e1.sub hp0) (z_sb (by decide))) hF1 hR1 (by rw [hL1]; exact hk) (by omega) (by omega) (by omega)
    refine z_xN (x := b) (P := fun b2 => b2.toInt = b.toInt + 1) zt22 53 rfl rfl (fun b2 hb2 => ?_) (z_pAdd rfl rfl (by omega) (by omega))
    show z_ev (d + 32) 22 123 [some (.ref 5), some (.int bl), some (.long w), none, some (.ref kp), some (.int b2), some (.int x)] [] M2 K
    refine z_xP zt22 54 62 [some (.ref 5), some (.int bl), some (.long w), none, some (.ref kp), some (.int b2), some (.int x)] [] rfl rfl ?_
    have eb2 : b2.toInt.toNat = b.toInt.toNat + 1 := by omega
    exact ih b2 (some (.int x)) M2 X2 hO2 hF2 ⟨_, hR2⟩ (by rw [eb2]; exact hk2) (by omega) (by omega) (by omega)
/-- told: the agenda is made -/
theorem zH22n {T T0 : List zK} {d q t kp pr en : Nat} {qv tv pv ev bl : Int32} {w : Int64} {o5 o6 : Option Value} {M : zH} {K : Option Value → zH → Prop} (hW : z_W M T) (kp8 : T[kp]? = some (.inr (108, 1, t * z_bl q, 0, 0))) (h4 : z_F M 5 4 = some (.int qv)) (h5 : z_F M 5 5 = some (.int pv)) (h6 : z_F M 5 6 = some (.int ev)) (h7 : z_F M 5 7 = some (.int tv)) (hpv : pv.toInt = (pr : Int)) (hev : ev.toInt = (en : Int)) (hp0 : ∀ (a : Nat) (κ : zK), T0[a]? = some κ → T[a]? = some κ) (hq : qv.toInt = (q : Int)) (q0 : 1 ≤ q) (q1 : q ≤ 10) (ht : tv.toInt = (t : Int)) (t8 : t ≤ 8) (hw : z_whb q w) (hkd : z_kw bb nn nu ts w (z_bl q) t (z_Lg M kp) (z_bl q) 0) (k : ∀ (N m : Nat) (T3 : List zK) (M3 : zH), z_W M3 T3 → T3[N]? = some (.inl (2, q, t, m, 0)) → (∀ (a : Nat) (κ : zK), T0[a]? = some κ → T3[a]? = some κ) → z_ke T0 [] M M3 → M3.length = M.length + 6 → z_sz M3 ≤ z_sz M + 1242 → (m = 0 ↔ ¬ z_lawful bb nn nu q t ts) → z_AGO T3 M3 N q t m pr en (z_brk bb nn nu ts t) → K (some (.ref N)) M3) : z_ev (d + 32) 22 126 [some (.ref 5), some (.int bl), some (.long w), none, some (.ref kp), o5, o6] [] M K := by
  have k5 : T[5]? = some (.inl (1, 0, 0, 0, 0)) := hW.k rfl (by decide)
  obtain ⟨fs5, g1, g2, g3, g4, g5⟩ := hW.ob k5
  unfold z_F at h4 h5 h6 h7
  rw [g1] at h4 h5 h6 h7
  have hN : 4 ≤ M.length := by have := hW.ge; have := hW.1; omega
  refine z_enew (N := M.length) (fs := [.int 0, .int 0, .int 0, .int 0, .int 0, .null, .int 0, .long 0, .null, .null, .int 0, .null, .null, .null]) (z_dc1 zt22 (n := 55) rfl) (by rw [zo22]; exact zzw1_105) rfl rfl ?_
  refine z_xP zt22 56 131 [some (.ref 5), some (.int bl), some (.long w), none, some (.ref kp), o5, o6] [.ref 5, .ref M.length, .ref M.length] rfl rfl ?_
  refine z_egf (fs := fs5) (z_dc1 zt22 (n := 57) rfl) (by rw [zo22]; exact zzf1_47) (z_loo g1) (by decide) (by decide) h4 ?_
  refine z_xP zt22 58 135 [some (.ref 5), some (.int bl), some (.long w), none, some (.ref kp), o5, o6] [.ref 5, .int qv, .ref M.length, .ref M.length] rfl rfl ?_
  refine z_egf (fs := fs5) (z_dc1 zt22 (n := 59) rfl) (by rw [zo22]; exact zzf1_44) (z_loo g1) (by decide) (by decide) h5 ?_
  refine z_xP zt22 60 139 [some (.ref 5), some (.int bl), some (.long w), none, some (.ref kp), o5, o6] [.ref 5, .int pv, .int qv, .ref M.length, .ref M.length] rfl rfl ?_
  refine z_egf (fs := fs5) (z_dc1 zt22 (n := 61) rfl) (by rw [zo22]; exact zzf1_41) (z_loo g1) (by decide) (by decide) h6 ?_
  refine z_xP zt22 62 143 [some (.ref 5), some (.int bl), some (.long w), none, some (.ref kp), o5, o6] [.ref 5, .int ev, .int pv, .int qv, .ref M.length, .ref M.length] rfl rfl ?_
  refine z_egf (fs := fs5) (z_dc1 zt22 (n := 63) rfl) (by rw [zo22]; exact zzf1_38) (z_loo g1) (by decide) (by decide) h7 ?_
  refine z_xP zt22 64 148 [some (.ref 5), some (.int bl), some (.long w), none, some (.ref kp), o5, o6] [.ref kp, .int tv, .int ev, .int pv, .int qv, .ref M.length, .ref M.length] rfl rfl ?_
  refine z_ecI (vs := [.ref M.length, .int qv, .int pv, .int ev, .int tv, .ref kp]) (r := [.ref M.length]) (L2 := [some (.ref M.length), some (.int qv), some (.int pv), some (.int ev), some (.int tv), some (.ref kp), none, none]) (z_dc1 zt22 (n := 65) rfl) (by rw [zo22]; exact zzcI1_107) (by decide) rfl z_geto hN rfl rfl (Nat.le_of_ble_eq_true rfl) zzm23 (Nat.le_of_ble_eq_true rfl) rfl ?_
  refine zG23 hN hq q0 q1 (fun av bv wv ha hb hwv => ?_)
  have hW1 : z_W (M ++ ([.inr (2, [.int qv, .int av, .int pv, .int ev, .int tv, .null, .int bv, .long wv, .ref kp, .ref (M.length + 2), .int 0, .null, .ref (M.length + 3), .ref (M.length + 1)]), .inl (0, 12, .inl fun _ => 0), .inl (1, z_bl q, .inr (.inl fun _ => 0)), .inl (1, z_bl q, .inr (.inl fun _ => 0))] : zH)) (T ++ [(.inl (2, q, t, 0, 1) : zK), z_ai 113 12 0 (64 * z_bl q - 1), z_al 109 (z_bl q), z_al 112 (z_bl q)]) := z_agd hW q0 q1 t8 kp8 hq ht ha hb
  have hbl := z_blb q0 q1
  have kb1 : z_ke T [] M (M ++ ([.inr (2, [.int qv, .int av, .int pv, .int ev, .int tv, .null, .int bv, .long wv, .ref kp, .ref (M.length + 2), .int 0, .null, .ref (M.length + 3), .ref (M.length + 1)]), .inl (0, 12, .inl fun _ => 0), .inl (1, z_bl q, .inr (.inl fun _ => 0)), .inl (1, z_bl q, .inr (.inl fun _ => 0))] : zH)) := z_ke.block hW
  have n5 : z_F (M ++ ([.inr (2, [.int qv, .int av, .int pv, .int ev, .int tv, .null, .int bv, .long wv, .ref kp, .ref (M.length + 2), .int 0, .null, .ref (M.length + 3), .ref (M.length + 1)]), .inl (0, 12, .inl fun _ => 0), .inl (1, z_bl q, .inr (.inl fun _ => 0)), .inl (1, z_bl q, .inr (.inl fun _ => 0))] : zH)) M.length 5 = some .null := by unfold z_F; rw [z_geto]; rfl
  have n11 : z_F (M ++ ([.inr (2, [.int qv, .int av, .int pv, .int ev, .int tv, .null, .int bv, .long wv, .ref kp, .ref (M.length + 2), .int 0, .null, .ref (M.length + 3), .ref (M.length + 1)]), .inl (0, 12, .inl fun _ => 0), .inl (1, z_bl q, .inr (.inl fun _ => 0)), .inl (1, z_bl q, .inr (.inl fun _ => 0))] : zH)) M.length 11 = some .null := by unfold z_F; rw [z_geto]; rfl
  have n7 : z_F (M ++ ([.inr (2, [.int qv, .int av, .int pv, .int ev, .int tv, .null, .int bv, .long wv, .ref kp, .ref (M.length + 2), .int 0, .null, .ref (M.length + 3), .ref (M.length + 1)]), .inl (0, 12, .inl fun _ => 0), .inl (1, z_bl q, .inr (.inl fun _ => 0)), .inl (1, z_bl q, .inr (.inl fun _ => 0))] : zH)) M.length 7 = some (.long wv) := by unfold z_F; rw [z_geto]; rfl
  have n2 : z_F (M ++ ([.inr (2, [.int qv, .int av, .int pv, .int ev, .int tv, .null, .int bv, .long wv, .ref kp, .ref (M.length + 2), .int 0, .null, .ref (M.length + 3), .ref (M.length + 1)]), .inl (0, 12, .inl fun _ => 0), .inl (1, z_bl q, .inr (.inl fun _ => 0)), .inl (1, z_bl q, .inr (.inl fun _ => 0))] : zH)) M.length 2 = some (.int pv) := by unfold z_F; rw [z_geto]; rfl
  have n3 : z_F (M ++ ([.inr (2, [.int qv, .int av, .int pv, .int ev, .int tv, .null, .int bv, .long wv, .ref kp, .ref (M.length + 2), .int 0, .null, .ref (M.length + 3), .ref (M.length + 1)]), .inl (0, 12, .inl fun _ => 0), .inl (1, z_bl q, .inr (.inl fun _ => 0)), .inl (1, z_bl q, .inr (.inl fun _ => 0))] : zH)) M.length 3 = some (.int ev) := by unfold z_F; rw [z_geto]; rfl
  have n8 : z_F (M ++ ([.inr (2, [.int qv, .int av, .int pv, .int ev, .int tv, .null, .int bv, .long wv, .ref kp, .ref (M.length + 2), .int 0, .null, .ref (M.length + 3), .ref (M.length + 1)]), .inl (0, 12, .inl fun _ => 0), .inl (1, z_bl q, .inr (.inl fun _ => 0)), .inl (1, z_bl q, .inr (.inl fun _ => 0))] : zH)) M.length 8 = some (.ref kp) := by unfold z_F; rw [z_geto]; rfl
  have n9 : z_F (M ++ ([.inr (2, [.int qv, .int av, .int pv, .int ev, .int tv, .null, .int bv, .long wv, .ref kp, .ref (M.length + 2), .int 0, .null, .ref (M.length + 3), .ref (M.length + 1)]), .inl (0, 12, .inl fun _ => 0), .inl (1, z_bl q, .inr (.inl fun _ => 0)), .inl (1, z_bl q, .inr (.inl fun _ => 0))] : zH)) M.length 9 = some (.ref (M.length + 2)) := by unfold z_F; rw [z_geto]; rfl
  have k92 : (T ++ [(.inl (2, q, t, 0, 1) : zK), z_ai 113 12 0 (64 * z_bl q - 1), z_al 109 (z_bl q), z_al 112 (z_bl q)])[M.length + 2]? = some (z_al 109 (z_bl q)) := by rw [hW.1, List.getElem?_append_right (by omega), show T.length + 2 - T.length = 2 from by omega]; rfl
  have hL1 : z_Lg (M ++ ([.inr (2, [.int qv, .int av, .int pv, .int ev, .int tv, .null, .int bv, .long wv, .ref kp, .ref (M.length + 2), .int 0, .null, .ref (M.length + 3), .ref (M.length + 1)]), .inl (0, 12, .inl fun _ => 0), .inl (1, z_bl q, .inr (.inl fun _ => 0)), .inl (1, z_bl q, .inr (.inl fun _ => 0))] : zH)) kp = z_Lg M kp := kb1.lg kp8 (by decide)
  have kN1 : (T ++ [(.inl (2, q, t, 0, 1) : zK), z_ai 113 12 0 (64 * z_bl q - 1), z_al 109 (z_bl q), z_al 112 (z_bl q)])[M.length]? = some (.inl (2, q, t, 0, 1)) := by rw [hW.1, List.getElem?_append_right (Nat.le_refl _), Nat.sub_self]; rfl
  have l1 : (M ++ ([.inr (2, [.int qv, .int av, .int pv, .int ev, .int tv, .null, .int bv, .long wv, .ref kp, .ref (M.length + 2), .int 0, .null, .ref (M.length + 3), .ref (M.length + 1)]), .inl (0, 12, .inl fun _ => 0), .inl (1, z_bl q, .inr (.inl fun _ => 0)), .inl (1, z_bl q, .inr (.inl fun _ => 0))] : zH)).length = M.length + 4 := List.length_append ..
  have s1 : z_sz (M ++ ([.inr (2, [.int qv, .int av, .int pv, .int ev, .int tv, .null, .int bv, .long wv, .ref kp, .ref (M.length + 2), .int 0, .null, .ref (M.length + 3), .ref (M.length + 1)]), .inl (0, 12, .inl fun _ => 0), .inl (1, z_bl q, .inr (.inl fun _ => 0)), .inl (1, z_bl q, .inr (.inl fun _ => 0))] : zH)) = z_sz M + (26 + 2 * z_bl q) := by
    have h2 : z_nf 2 = 14 := by decide
    simp [z_sz, z_cz, h2]
    omega
  have p1 : ∀ (a : Nat) (κ : zK), T[a]? = some κ → (T ++ [(.inl (2, q, t, 0, 1) : zK), z_ai 113 12 0 (64 * z_bl q - 1), z_al 109 (z_bl q), z_al 112 (z_bl q)])[a]? = some κ := z_pfx
  generalize M ++ ([.inr (2, [.int qv, .int av, .int pv, .int ev, .int tv, .null, .int bv, .long wv, .ref kp, .ref (M.length + 2), .int 0, .null, .ref (M.length + 3), .ref (M.length + 1)]), .inl (0, 12, .inl fun _ => 0), .inl (1, z_bl q, .inr (.inl fun _ => 0)), .inl (1, z_bl q, .inr (.inl fun _ => 0))] : zH) = M1 at *
  generalize T ++ [(.inl (2, q, t, 0, 1) : zK), z_ai 113 12 0 (64 * z_bl q - 1), z_al 109 (z_bl q), z_al 112 (z_bl q)] = T1 at *
  have ho0 : ∀ (a : Nat) (κ : zK), T0[a]? = some κ → a < M.length := fun a κ h => by
    have h1 := (List.getElem?_eq_some_iff.mp (hp0 a κ h)).1
    have := hW.1
    omega
  have hq2 : 1 ≤ q ∧ q ≤ 10 := ⟨q0, q1⟩
  refine z_ev.mono (z_ev.grow (K := fun v M3 => v = none ∧ ∃ (m : Nat) (T3 : List zK), (m = 0 ↔ ¬ z_lawful bb nn nu q t ts) ∧ m ≤ 1024 ∧ z_W M3 T3 ∧ T3[M.length]? = some (.inl (2, q, t, m, 0)) ∧ (∀ (a : Nat) (κ : zK), T0[a]? = some κ → T3[a]? = some κ) ∧ z_ke T0 [] M M3 ∧ M3.length = M1.length + 2 ∧ T3[M1.length]? = some (z_ai 102 m 0 1023) ∧ T3[M1.length + 1]? = some (z_al 111 (q * z_sp m)) ∧ z_AGO T3 M3 M.length q t m pr en (z_brk bb nn nu ts t)) ?_) (fun v M3 ⟨⟨hv, m, T3, hlaw, hm, hW3, kN3, p3, ke3, l3, kA, kB, hct⟩, hg, _⟩ => ?_)
  · have z0 : (0 : Int32).toInt = 0 := rfl
    have h53 : 53 ≤ M.length := by have := hW.ge; have := hW.1; omega
    have o2 : T0[M.length + 2]? = none := z_nof fun κ h => by have := ho0 _ κ h; omega
    refine z_xP zt23 46 117 [some (.ref M.length), some (.int qv), some (.int pv), some (.int ev), some (.int tv), some (.ref kp), some (.int 0), some (.int 0)] [] rfl rfl ?_
    refine zX23 (d := d + 30) kN1 n7 n8 (p1 _ _ kp8) n9 k92 (T0 := T0) (fun a κ h => p1 _ _ (hp0 a κ h)) o2 hbl (fun many b M2 X2 hO2 hlb hmany => ?_) (z_bl q + 1) 0 0 M1 (.refl hW1) .refl (by omega) (by omega) (fun b h => absurd h (Nat.not_lt_zero b)) (by rw [show (0 : Int32).toInt.toNat = 0 from rfl]; rfl) (by omega)
    have hsl := z_sm_le (z_Lg M2 (M.length + 2)) (z_bl q)
    have m0 : 0 ≤ many.toInt := by omega
    rw [hL1] at hlb
    have hlaw := z_lawbits q0 hw hwv hkd hlb
    have hlw := z_lwb_of hw hwv hkd hlb
    have hmB := z_many hlw z_blq2
    have hmB2 : many.toInt.toNat = z_lc (z_brk bb nn nu ts t) (2 ^ q) := by omega
    have hlaw2 : many.toInt.toNat = 0 ↔ ¬ z_lawful bb nn nu q t ts := by
      rw [← hlaw, show many.toInt.toNat = z_sm (z_Lg M2 (M.length + 2)) (z_bl q) from by omega]
    have hm2 : many.toInt ≤ 1024 := by omega
    have l2 : M2.length = M1.length := X2.1.1.trans hW1.1.symm
    have f2 : ∀ k, z_F M2 M.length k = z_F M1 M.length k := fun k => X2.2.1 M.length 2 q t 0 1 k kN1 (fun h => by
      have h : 1000 + 100 * 2 + k ∈ [109] := h
      simp only [List.mem_cons, List.not_mem_nil, or_false] at h
      omega)
    refine zF23 (d := d + 28) (T0 := T0) (B := z_brk bb nn nu ts t) (lb := M.length + 2) X2.1 h53 kN1 ((f2 5).trans n5) ((f2 11).trans n11) ((f2 9).trans n9) k92 hlw hmB2 hq q1 m0 hm2 (fun a κ hk => ⟨p1 a κ (hp0 a κ hk), by have := ho0 a κ hk; omega⟩) (fun T3 M3 hW3 kN3 p3 ke3 fN fA h5 h11 hS hY l3 kA kB => ?_)
    have eL := fA (M.length + 2) 109 _ k92 (by decide) (by decide)
    have eK := fA kp 108 _ (p1 _ _ kp8) (by decide) (by decide)
    have eL2 : z_Lg M3 (M.length + 2) = z_Lg M2 (M.length + 2) := by unfold z_Lg; rw [eL.1]
    have eK2 : z_Lg M3 kp = z_Lg M kp := by
      have h1 : z_Lg M3 kp = z_Lg M2 kp := by unfold z_Lg; rw [eK.1]
      rw [h1, X2.2.lg (p1 _ _ kp8) (by decide), hL1]
    have g := fun (k : Nat) (h5 : k ≠ 5) (h10 : k ≠ 10) (h11 : k ≠ 11) => (fN k h5 h10 h11).trans (f2 k)
    have hct : z_AGO T3 M3 M.length q t many.toInt.toNat pr en (z_brk bb nn nu ts t) := ⟨kN3, z_brk_lt t, hmB2, ⟨pv, (g 2 (by decide) (by decide) (by decide)).trans n2, hpv⟩, ⟨ev, (g 3 (by decide) (by decide) (by decide)).trans n3, hev⟩, ⟨wv, (g 7 (by decide) (by decide) (by decide)).trans n7, hwv⟩, ⟨M2.length, h5, kA, hS⟩, ⟨M.length + 2, (g 9 (by decide) (by decide) (by decide)).trans n9, eL.2, by rw [eL2]; exact hlw⟩, ⟨kp, (g 8 (by decide) (by decide) (by decide)).trans n8, eK.2, by rw [eK2]; exact z_tb_of hw hkd⟩, ⟨M2.length + 1, h11, kB, hY⟩⟩
    rw [l2] at l3 kA kB
    exact ⟨rfl, many.toInt.toNat, T3, hlaw2, by omega, hW3, kN3, p3, ((((kb1.sub hp0).trans hO2 (fun _ h => h))).trans ke3 (fun _ h => h)), l3, kA, kB, hct⟩
  · subst hv
    obtain ⟨f1, a1, _⟩ := hW3.ai kA (by decide)
    obtain ⟨f2, a2⟩ := hW3.al kB (by decide)
    have s3 := z_sz2 hg l3 a1 a2
    have s4 : z_sz M3 = z_sz M1 + m + q * z_sp m := s3
    have s5 : q * z_sp m ≤ 10 * 16 := Nat.mul_le_mul q1 (z_spf hm).1
    show z_ev (d + 32) 22 151 [some (.ref 5), some (.int bl), some (.long w), none, some (.ref kp), o5, o6] [.ref M.length] M3 _
    exact z_xra zt22 66 rfl zzr22 (k M.length m T3 M3 hW3 kN3 p3 ke3 (by omega) (by omega) hlaw hct)
theorem zH22c {T : List zK} {d pr en : Nat} {qv : Int32} {M : zH} {K : Option Value → zH → Prop} (hW : z_W M T) (h4 : z_F M 5 4 = some (.int qv)) {q : Nat} (hq : qv.toInt = (q : Int)) (q0 : 1 ≤ q) (q1 : q ≤ 10) {bl : Int32} (hbl : bl.toInt = ((z_bl q : Nat) : Int)) {w : Int64} (hw : z_whb q w) {t : Nat} {tv : Int32} (h7 : z_F M 5 7 = some (.int tv)) (ht : tv.toInt = (t : Int)) (h5 : (z_Fv M 5 5).toInt = (pr : Int)) (h6 : (z_Fv M 5 6).toInt = (en : Int)) (hts : ∀ i, i < t → z_ti bb nn (z_one bb nn nu 6) (ts i) ≠ none ∧ ts i ≤ nn) {BB : Nat} (hR : z_rdy bb nn nu t ts M BB) (k : ∀ (N m : Nat) (T3 : List zK) (M3 : zH), z_W M3 T3 → T3[N]? = some (.inl (2, q, t, m, 0)) → (∀ (a : Nat) (κ : zK), T[a]? = some κ → T3[a]? = some κ) → z_ke T [9, 1102, 1103, 1110] M M3 → M3.length = M.length + 7 → z_sz M3 ≤ z_sz M + 1370 → (m = 0 ↔ ¬ z_lawful bb nn nu q t ts) → z_AGO T3 M3 N q t m pr en (z_brk bb nn nu ts t) → K (some (.ref N)) M3) : z_ev (d + 32) 22 48 [some (.ref 5), some (.int bl), none, none, none, none, none] [.long w] M K := by
  have k5 : T[5]? = some (.inl (1, 0, 0, 0, 0)) := hW.k rfl (by decide)
  have k8 : T[8]? = some (.inr (8, 0, 8, 0, 160)) := hW.k rfl (by decide)
  have hb := z_blb q0 q1
  obtain ⟨tv', h7', t0, t1⟩ := hW.fi k5 (k := 7) (lo := 0) (hi := 8) (by decide) rfl
  have htv : tv' = tv := by rw [h7] at h7'; cases h7'; rfl
  rw [htv] at t0 t1
  obtain ⟨pv, h5f, _, _⟩ := hW.fi k5 (k := 5) (lo := -2147483648) (hi := 2147483647) (by decide) rfl
  obtain ⟨ev, h6f, _, _⟩ := hW.fi k5 (k := 6) (lo := -2147483648) (hi := 2147483647) (by decide) rfl
  rw [z_Fv.of h5f] at h5
  rw [z_Fv.of h6f] at h6
  have X : z_X T zw22 M M := .refl hW
  refine z_xP zt22 23 50 [some (.ref 5), some (.int bl), some (.long w), none, none, none, none] [.ref 5] rfl rfl ?_
  refine z_xgv zt22 24 rfl zo22 zzf1_38 X k5 (by decide) h7 ?_
  refine z_xP zt22 25 54 [some (.ref 5), some (.int bl), some (.long w), none, none, none, none] [.int bl, .int tv] rfl rfl ?_
  refine z_xI zt22 26 rfl rfl (fun (z : Int32) (hz : z.toInt = tv.toInt * bl.toInt ∧ 0 ≤ z.toInt ∧ z.toInt ≤ 128) => ?_) (z_pMulB (a := 8) (b := 16) rfl rfl (by omega) (by omega) (by omega) (by omega) (by decide) (by decide))
  have hzk : z.toNatClampNeg = t * z_bl q := by
    have h1 : z.toInt = ((t * z_bl q : Nat) : Int) := by rw [hz.1, ht, hbl]; exact (Int.natCast_mul _ _).symm
    unfold Int32.toNatClampNeg; omega
  have hz2 : t * z_bl q ≤ 128 := by rw [← hzk]; unfold Int32.toNatClampNeg; omega
  refine z_enal (N := M.length) (k := t * z_bl q) (z_dc1 zt22 (n := 27) rfl) (z_nlo (by omega) (by omega)) hzk rfl ?_
  have hW1 : z_W (M ++ [(.inl (1, t * z_bl q, .inr (.inl fun _ => 0)) : zE)]) (T ++ [z_al 108 (t * z_bl q)]) := hW.push (Or.inr ⟨rfl, rfl, rfl⟩)
  have kp1 : (T ++ [z_al 108 (t * z_bl q)])[M.length]? = some (.inr (108, 1, t * z_bl q, 0, 0)) := by rw [hW.1, List.getElem?_append_right (Nat.le_refl _), Nat.sub_self]; rfl
  have kb1 : z_ke T [9, 1102, 1103, 1110] M (M ++ [(.inl (1, t * z_bl q, .inr (.inl fun _ => 0)) : zE)]) := z_ke.block hW
  have kb0 : z_ke T [] M (M ++ [(.inl (1, t * z_bl q, .inr (.inl fun _ => 0)) : zE)]) := z_ke.block hW
  have hR1 := hR.go hW kb0 rfl (by decide)
  have p1 : ∀ (a : Nat) (κ : zK), T[a]? = some κ → (T ++ [z_al 108 (t * z_bl q)])[a]? = some κ := z_pfx
  have l1 : (M ++ [(.inl (1, t * z_bl q, .inr (.inl fun _ => 0)) : zE)]).length = M.length + 1 := List.length_append ..
  have s1 : z_sz (M ++ [(.inl (1, t * z_bl q, .inr (.inl fun _ => 0)) : zE)]) = z_sz M + t * z_bl q := by simp [z_sz, z_cz]
  have hN : 4 ≤ M.length := by have := hW.ge; have := hW.1; omega
  refine z_xP zt22 28 62 [some (.ref 5), some (.int bl), some (.long w), none, some (.ref M.length), some (.int 0), none] [] rfl rfl ?_
  generalize M ++ [(.inl (1, t * z_bl q, .inr (.inl fun _ => 0)) : zE)] = M1 at *
  generalize T ++ [z_al 108 (t * z_bl q)] = T1 at *
  have z0 : (0 : Int32).toInt = 0 := rfl
  have o0 : T[M.length]? = none := by rw [hW.1]; exact List.getElem?_eq_none (Nat.le_refl _)
  refine zH22o (d := d) (M0 := M1) (p1 _ _ k5) (p1 _ _ k8) kp1 hN hbl hb.2 ht (by omega) hts p1 o0 (fun b o6 M2 X2 hO2 h72 hkd => ?_) 17 0 none M1 (.refl hW1) .refl (kb1.f k5 (by decide) h7) ⟨_, hR1⟩ z_kw0 (by omega) (by omega) (by omega)
  have f := fun (k : Nat) (v : Option Value) (hr : ¬ (1000 + 100 * 1 + k) ∈ [9, 1102, 1103, 1110]) (hr2 : ¬ (1000 + 100 * 1 + k) ∈ zw22) (h : z_F M 5 k = v) => X2.2.f (p1 _ _ k5) hr2 (kb1.f k5 hr h)
  have s2 : z_sz M2 = z_sz M1 := z_szX hW1 X2 (by decide)
  have l2 : M2.length = M1.length := X2.1.1.trans hW1.1.symm
  refine zH22n (T0 := T) X2.1 kp1 (f 4 _ (by decide) (by decide) h4) (f 5 _ (by decide) (by decide) h5f) (f 6 _ (by decide) (by decide) h6f) h72 h5 h6 p1 hq q0 q1 ht (by omega) hw hkd (fun N m T3 M3 hW3 kN p3 ke l3 s3 hlaw hct => ?_)
  exact k N m T3 M3 hW3 kN p3 ((kb1.trans hO2 (z_sb (by decide))).trans ke (z_sb (by decide))) (by omega) (by omega) hlaw hct
theorem zH22b {T : List zK} {d pr en : Nat} {qv : Int32} {M : zH} {K : Option Value → zH → Prop} (hW : z_W M T) (h4 : z_F M 5 4 = some (.int qv)) {q : Nat} (hq : qv.toInt = (q : Int)) (q0 : 1 ≤ q) (q1 : q ≤ 10) {bl : Int32} (hbl : bl.toInt = ((z_bl q : Nat) : Int)) {t : Nat} {tv : Int32} (h7 : z_F M 5 7 = some (.int tv)) (ht : tv.toInt = (t : Int)) (h5 : (z_Fv M 5 5).toInt = (pr : Int)) (h6 : (z_Fv M 5 6).toInt = (en : Int)) (hts : ∀ i, i < t → z_ti bb nn (z_one bb nn nu 6) (ts i) ≠ none ∧ ts i ≤ nn) {BB : Nat} (hR : z_rdy bb nn nu t ts M BB) (k : ∀ (N m : Nat) (T3 : List zK) (M3 : zH), z_W M3 T3 → T3[N]? = some (.inl (2, q, t, m, 0)) → (∀ (a : Nat) (κ : zK), T[a]? = some κ → T3[a]? = some κ) → z_ke T [9, 1102, 1103, 1110] M M3 → M3.length = M.length + 7 → z_sz M3 ≤ z_sz M + 1370 → (m = 0 ↔ ¬ z_lawful bb nn nu q t ts) → z_AGO T3 M3 N q t m pr en (z_brk bb nn nu ts t) → K (some (.ref N)) M3) : z_ev (d + 32) 22 22 [some (.ref 5), none, none, none, none, none, none] [.int bl] M K := by
  have k5 : T[5]? = some (.inl (1, 0, 0, 0, 0)) := hW.k rfl (by decide)
  have X : z_X T zw22 M M := .refl hW
  refine z_xP zt22 11 24 [some (.ref 5), some (.int bl), none, none, none, none, none] [.ref 5] rfl rfl ?_
  refine z_xgv zt22 12 rfl zo22 zzf1_47 X k5 (by decide) h4 ?_
  refine z_xP zt22 13 29 [some (.ref 5), some (.int bl), none, none, none, none, none] [.int 6, .int qv] rfl rfl ?_
  have q6 : (6 : Int32).toInt = 6 := rfl
  refine z_xJ zt22 14 rfl rfl (fun (h1 : (6 : Int32).toInt ≤ qv.toInt) => ?_) (fun (h1 : qv.toInt < (6 : Int32).toInt) => ?_)
  · refine z_xl2 zt22 22 rfl zo22 zkl2_1_84 ?_
    exact zH22c hW h4 hq q0 q1 hbl (z_whbO (by omega)) h7 ht h5 h6 hts hR k
  · refine z_xP zt22 15 35 [some (.ref 5), some (.int bl), none, none, none, none, none] [.ref 5, .int 1, .long 1] rfl rfl ?_
    refine z_xgv zt22 16 rfl zo22 zzf1_47 X k5 (by decide) h4 ?_
    refine z_xI zt22 17 rfl rfl (fun (x : Int32) (hx : x = (1 : Int32) <<< (qv &&& 31)) => ?_) rfl
    refine z_xL zt22 18 rfl rfl (fun (y : Int64) (hy : y = (1 : Int64) <<< (x.toInt64 &&& 63)) => ?_) rfl
    refine z_xP zt22 19 41 [some (.ref 5), some (.int bl), none, none, none, none, none] [.long 1, .long y] rfl rfl ?_
    refine z_xL zt22 20 rfl rfl (fun (w : Int64) (hw : w = y - 1) => ?_) rfl
    refine z_xP zt22 21 48 [some (.ref 5), some (.int bl), none, none, none, none, none] [.long w] rfl rfl ?_
    exact zH22c hW h4 hq q0 q1 hbl (z_whbS hq q0 (by omega) hx hy hw) h7 ht h5 h6 hts hR k
theorem zH22a {T : List zK} {d pr en : Nat} {qv : Int32} {M : zH} {K : Option Value → zH → Prop} (hW : z_W M T) (h4 : z_F M 5 4 = some (.int qv)) {q : Nat} (hq : qv.toInt = (q : Int)) (q0 : 1 ≤ qv.toInt) (q1 : qv.toInt ≤ 10) {t : Nat} {tv : Int32} (h7 : z_F M 5 7 = some (.int tv)) (ht : tv.toInt = (t : Int)) (h5 : (z_Fv M 5 5).toInt = (pr : Int)) (h6 : (z_Fv M 5 6).toInt = (en : Int)) (hts : ∀ i, i < t → z_ti bb nn (z_one bb nn nu 6) (ts i) ≠ none ∧ ts i ≤ nn) {BB : Nat} (hR : z_rdy bb nn nu t ts M BB) (k : ∀ (N m : Nat) (T3 : List zK) (M3 : zH), z_W M3 T3 → T3[N]? = some (.inl (2, q, t, m, 0)) → (∀ (a : Nat) (κ : zK), T[a]? = some κ → T3[a]? = some κ) → z_ke T [9, 1102, 1103, 1110] M M3 → M3.length = M.length + 7 → z_sz M3 ≤ z_sz M + 1370 → (m = 0 ↔ ¬ z_lawful bb nn nu q t ts) → z_AGO T3 M3 N q t m pr en (z_brk bb nn nu ts t) → K (some (.ref N)) M3) : z_ev (d + 32) 22 0 [some (.ref 5), none, none, none, none, none, none] [] M K := by
  have k5 : T[5]? = some (.inl (1, 0, 0, 0, 0)) := hW.k rfl (by decide)
  have X : z_X T zw22 M M := .refl hW
  refine z_xP zt22 0 1 [some (.ref 5), none, none, none, none, none, none] [.ref 5] rfl rfl ?_
  refine z_xgv zt22 1 rfl zo22 zzf1_47 X k5 (by decide) h4 ?_
  refine z_xP zt22 2 6 [some (.ref 5), none, none, none, none, none, none] [.int 6, .int qv] rfl rfl ?_
  have q6 : (6 : Int32).toInt = 6 := rfl
  have q1i : (1 : Int32).toInt = 1 := rfl
  refine z_xJ zt22 3 rfl rfl (fun (h1 : qv.toInt ≤ (6 : Int32).toInt) => ?_) (fun (h1 : (6 : Int32).toInt < qv.toInt) => ?_)
  · refine z_xP zt22 10 22 [some (.ref 5), none, none, none, none, none, none] [.int 1] rfl rfl ?_
    exact zH22b hW h4 hq (by omega) (by omega) (by rw [q1i, z_blle (by omega)]; rfl) h7 ht h5 h6 hts hR k
  · refine z_xP zt22 4 11 [some (.ref 5), none, none, none, none, none, none] [.ref 5, .int 1] rfl rfl ?_
    refine z_xgv zt22 5 rfl zo22 zzf1_47 X k5 (by decide) h4 ?_
    refine z_xP zt22 6 16 [some (.ref 5), none, none, none, none, none, none] [.int 6, .int qv, .int 1] rfl rfl ?_
    refine z_xI zt22 7 rfl rfl (fun (y : Int32) (hy : y.toInt = ((q - 6 : Nat) : Int)) => ?_) (by rw [z_pSub (x := qv) (y := 6) rfl rfl (by omega) (by omega)]; omega)
    refine z_xI zt22 8 rfl rfl (fun (b : Int32) (hb : b.toInt = 1 * ((2 ^ (q - 6) : Nat) : Int)) => ?_) (z_pShl (q - 6) rfl hy (by omega) rfl (by decide) rfl (by have := z_pob2 (q := q) (by omega); omega))
    refine z_xP zt22 9 22 [some (.ref 5), none, none, none, none, none, none] [.int b] rfl rfl ?_
    exact zH22b hW h4 hq (by omega) (by omega) (by rw [hb, z_blgt (by omega)]; omega) h7 ht h5 h6 hts hR k
end ZH
