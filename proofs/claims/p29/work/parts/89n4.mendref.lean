/-! mend of the reference, told -/
theorem zUB273 {T : List zK} {d : Nat} {K : Option Value → zH → Prop} {p1 : Int32} {p2 : Int32} {p3 : Int32} {q t m pr en : Nat} {B : Nat → Nat} {M0 : zH} (u1 : 0 ≤ p1.toInt ∧ p1.toInt ≤ 7) (u2 : 1 ≤ p2.toInt ∧ p2.toInt ≤ 5) (u3 : 0 ≤ p3.toInt ∧ p3.toInt ≤ 255) (hYS : z_YS M0 p1.toNatClampNeg q t m pr en B) (kk : ∀ (x : Int32) (M1 : zH), z_X T zw273 M0 M1 → 0 ≤ x.toInt → x.toInt ≤ 1 → (x.toInt = 1 ∧ z_sfe B t q p2.toInt.toNat p3.toInt.toNat) ∨ (x.toInt = 0 ∧ ¬ z_sfe B t q p2.toInt.toNat p3.toInt.toNat) → K (some (.int x)) M1) : ∀ n : Nat, (∀ (M : zH) (b4 : Int32) (z0 : Int32), z_X T zw273 M0 M → 0 ≤ b4.toInt ∧ b4.toInt ≤ 1024 → z_F M 19 43 = some (.int z0) → 0 ≤ z0.toInt ∧ z0.toInt ≤ 12 → z_LS (z_dB B t q p3.toInt.toNat) b4.toInt.toNat (z_Ar M 47) → z0.toInt = ((z_lc (z_dB B t q p3.toInt.toNat) b4.toInt.toNat : Nat) : Int) → b4.toInt ≤ ((2 ^ q : Nat) : Int) → ((((0) * 8 + 6) * 742588 + (1024 - b4.toInt)) * 8 + 7) * 13 + (0) < (n : Int) → z_ev (d + 3) 273 8 [some (.ref 19), some (.int p1), some (.int p2), some (.int p3), some (.int b4), none, none, none, none, none] [] M K) ∧ (∀ (M : zH) (b4 : Int32) (z0 : Int32) (z1 : Int32) (z2 : Int32), z_X T zw273 M0 M → 0 ≤ b4.toInt ∧ b4.toInt ≤ 5 → z_F M 19 43 = some (.int z0) → 0 ≤ z0.toInt ∧ z0.toInt ≤ 12 → z_F M 19 29 = some (.int z1) → 0 ≤ z1.toInt ∧ z1.toInt ≤ 7 → z_F M 19 30 = some (.int z2) → 1 ≤ z2.toInt ∧ z2.toInt ≤ 5 → b4.toInt ≤ p2.toInt → 0 ≤ b4.toInt → z1.toInt = p1.toInt → z2.toInt = p2.toInt → z_NB M b4.toInt 1 → z_LS (z_dB B t q p3.toInt.toNat) (2 ^ q) (z_Ar M 47) → z0.toInt = ((z_lc (z_dB B t q p3.toInt.toNat) (2 ^ q) : Nat) : Int) → ((((0) * 8 + 5) * 742588 + (5 - b4.toInt)) * 8 + 7) * 13 + (0) < (n : Int) → z_ev (d + 3) 273 92 [some (.ref 19), some (.int p1), some (.int p2), some (.int p3), some (.int b4), none, none, none, none, none] [] M K) ∧ (∀ (M : zH) (b4 : Int32) (b5 : Int32) (o6 : Option Value) (o7 : Option Value) (o8 : Option Value) (o9 : Option Value) (z0 : Int32) (z1 : Int32) (z2 : Int32), z_X T zw273 M0 M → 0 ≤ b4.toInt ∧ b4.toInt ≤ 1 → 0 ≤ b5.toInt ∧ b5.toInt ≤ 1 → z_F M 19 43 = some (.int z0) → 0 ≤ z0.toInt ∧ z0.toInt ≤ 12 → z_F M 19 29 = some (.int z1) → 0 ≤ z1.toInt ∧ z1.toInt ≤ 7 → z_F M 19 30 = some (.int z2) → 1 ≤ z2.toInt ∧ z2.toInt ≤ 5 → z1.toInt = p1.toInt → z2.toInt = p2.toInt → z_NB M p2.toInt 13 → (b4.toInt = 1 → b5.toInt = 1 → z_NB M p2.toInt (z_mx z0.toInt)) → z_LS (z_dB B t q p3.toInt.toNat) (2 ^ q) (z_Ar M 47) → z0.toInt = ((z_lc (z_dB B t q p3.toInt.toNat) (2 ^ q) : Nat) : Int) → z_mT p2.toInt.toNat q (z_dB B t q p3.toInt.toNat) (z_Ar M 43) b4.toInt b5.toInt → ((((0) * 8 + 4) * 742588 + (2 * (371293 - z_V 13 (z_Ar M 43) p2.toInt.toNat) + b5.toInt)) * 8 + 7) * 13 + (0) < (n : Int) → z_ev (d + 3) 273 118 [some (.ref 19), some (.int p1), some (.int p2), some (.int p3), some (.int b4), some (.int b5), o6, o7, o8, o9] [] M K) ∧ (∀ (M : zH) (b4 : Int32) (b5 : Int32) (b6 : Int32) (o7 : Option Value) (o8 : Option Value) (o9 : Option Value) (z0 : Int32) (z1 : Int32) (z2 : Int32) (eg : Int), z_X T zw273 M0 M → 1 ≤ b4.toInt ∧ b4.toInt ≤ 1 → 1 ≤ b5.toInt ∧ b5.toInt ≤ 1 → 0 ≤ b6.toInt ∧ b6.toInt ≤ 5 → z_F M 19 43 = some (.int z0) → 0 ≤ z0.toInt ∧ z0.toInt ≤ 12 → z_F M 19 29 = some (.int z1) → 0 ≤ z1.toInt ∧ z1.toInt ≤ 7 → z_F M 19 30 = some (.int z2) → 1 ≤ z2.toInt ∧ z2.toInt ≤ 5 → z1.toInt = p1.toInt → z2.toInt = p2.toInt → b6.toInt ≤ p2.toInt → z_NB M p2.toInt (z_mx z0.toInt) → eg = 2 * (371293 - z_V 13 (z_Ar M 43) p2.toInt.toNat) + 1 → z_LS (z_dB B t q p3.toInt.toNat) (2 ^ q) (z_Ar M 47) → z0.toInt = ((z_lc (z_dB B t q p3.toInt.toNat) (2 ^ q) : Nat) : Int) → z_mO p2.toInt.toNat q (z_dB B t q p3.toInt.toNat) (z_Ar M 43) → z_sts (z_Ar M 39) (z_Ar M 40) (z_Ar M 41) (z_Ar M 43) q (z_dB B t q p3.toInt.toNat) b6.toInt.toNat → ((((0) * 8 + 4) * 742588 + (eg)) * 8 + 3) * 13 + (5 - b6.toInt) < (n : Int) → z_ev (d + 3) 273 131 [some (.ref 19), some (.int p1), some (.int p2), some (.int p3), some (.int b4), some (.int b5), some (.int b6), o7, o8, o9] [] M K) ∧ (∀ (M : zH) (b4 : Int32) (b5 : Int32) (b6 : Int32) (b7 : Int32) (o8 : Option Value) (o9 : Option Value) (z0 : Int32) (z1 : Int32) (z2 : Int32) (z3 : Int32) (z4 : Int32) (eg : Int), z_X T zw273 M0 M → 1 ≤ b4.toInt ∧ b4.toInt ≤ 1 → 1 ≤ b5.toInt ∧ b5.toInt ≤ 1 → 0 ≤ b6.toInt ∧ b6.toInt ≤ 1 → 0 ≤ b7.toInt ∧ b7.toInt ≤ 12 → z_F M 19 43 = some (.int z0) → 0 ≤ z0.toInt ∧ z0.toInt ≤ 12 → z_F M 19 29 = some (.int z1) → 0 ≤ z1.toInt ∧ z1.toInt ≤ 7 → z_F M 19 30 = some (.int z2) → 1 ≤ z2.toInt ∧ z2.toInt ≤ 5 → z_F M 19 34 = some (.int z3) → z_F M 19 35 = some (.int z4) → (b6.toInt = 0 ∨ 1 ≤ z0.toInt) → z1.toInt = p1.toInt → z2.toInt = p2.toInt → b7.toInt ≤ z0.toInt → z_NB M p2.toInt (z_mx z0.toInt) → eg = 2 * (371293 - z_V 13 (z_Ar M 43) p2.toInt.toNat) + 1 → z_LS (z_dB B t q p3.toInt.toNat) (2 ^ q) (z_Ar M 47) → z0.toInt = ((z_lc (z_dB B t q p3.toInt.toNat) (2 ^ q) : Nat) : Int) → z_mO p2.toInt.toNat q (z_dB B t q p3.toInt.toNat) (z_Ar M 43) → z_mY p2.toInt.toNat q (z_dB B t q p3.toInt.toNat) (z_Ar M 43) z3.toInt z4.toInt → z_cnm (z_Ar M 47) z3 z4 b7.toInt.toNat b6.toInt → ((((0) * 8 + 4) * 742588 + (eg)) * 8 + 2) * 13 + (12 - b7.toInt) < (n : Int) → z_ev (d + 3) 273 185 [some (.ref 19), some (.int p1), some (.int p2), some (.int p3), some (.int b4), some (.int b5), some (.int b6), some (.int b7), o8, o9] [] M K) ∧ (∀ (M : zH) (b4 : Int32) (b5 : Int32) (b6 : Int32) (b7 : Int32) (o8 : Option Value) (o9 : Option Value) (z0 : Int32) (z1 : Int32) (z2 : Int32) (eg : Int), z_X T zw273 M0 M → 0 ≤ b4.toInt ∧ b4.toInt ≤ 1 → 1 ≤ b5.toInt ∧ b5.toInt ≤ 1 → 0 ≤ b6.toInt ∧ b6.toInt ≤ 1 → (-1) ≤ b7.toInt ∧ b7.toInt ≤ 4 → z_F M 19 43 = some (.int z0) → 0 ≤ z0.toInt ∧ z0.toInt ≤ 12 → z_F M 19 29 = some (.int z1) → 0 ≤ z1.toInt ∧ z1.toInt ≤ 7 → z_F M 19 30 = some (.int z2) → 1 ≤ z2.toInt ∧ z2.toInt ≤ 5 → (b4.toInt = 0 ∨ 1 ≤ z0.toInt) → b7.toInt ≤ p2.toInt - 1 → z1.toInt = p1.toInt → z2.toInt = p2.toInt → z_NB M p2.toInt (z_mx z0.toInt) → eg = 2 * (371293 - z_V 13 (z_Ar M 43) p2.toInt.toNat) + 1 → z_LS (z_dB B t q p3.toInt.toNat) (2 ^ q) (z_Ar M 47) → z0.toInt = ((z_lc (z_dB B t q p3.toInt.toNat) (2 ^ q) : Nat) : Int) → z_mO p2.toInt.toNat q (z_dB B t q p3.toInt.toNat) (z_Ar M 43) → z_mD p2.toInt.toNat q (z_dB B t q p3.toInt.toNat) (z_Ar M 43) b4.toInt → z_mJ (z_lc (z_dB B t q p3.toInt.toNat) (2 ^ q)) (z_Ar M 43) b7.toInt p2.toInt → ((((0) * 8 + 4) * 742588 + (eg)) * 8 + 1) * 13 + (b7.toInt - (-1)) < (n : Int) → z_ev (d + 3) 273 242 [some (.ref 19), some (.int p1), some (.int p2), some (.int p3), some (.int b4), some (.int b5), some (.int b6), some (.int b7), o8, o9] [] M K) ∧ (∀ (M : zH) (b4 : Int32) (b5 : Int32) (b6 : Int32) (b7 : Int32) (b8 : Int32) (b9 : Int32) (z0 : Int32) (z1 : Int32) (z2 : Int32) (eg : Int), z_X T zw273 M0 M → 0 ≤ b4.toInt ∧ b4.toInt ≤ 1 → 0 ≤ b5.toInt ∧ b5.toInt ≤ 1 → 0 ≤ b6.toInt ∧ b6.toInt ≤ 1 → (-1) ≤ b7.toInt ∧ b7.toInt ≤ 4 → 0 ≤ b8.toInt ∧ b8.toInt ≤ 1024 → (-1) ≤ b9.toInt ∧ b9.toInt ≤ 5 → z_F M 19 43 = some (.int z0) → 0 ≤ z0.toInt ∧ z0.toInt ≤ 12 → z_F M 19 29 = some (.int z1) → 0 ≤ z1.toInt ∧ z1.toInt ≤ 7 → z_F M 19 30 = some (.int z2) → 1 ≤ z2.toInt ∧ z2.toInt ≤ 5 → (b4.toInt = 0 ∨ 1 ≤ z0.toInt) → (b5.toInt = 0 ∨ (b5.toInt = 1 ∧ 0 ≤ b7.toInt ∧ b7.toInt < p2.toInt ∧ b7.toInt ≤ b9.toInt ∧ 1 ≤ b8.toInt ∧ b8.toInt ≤ 12 ∧ (b4.toInt = 0 ∨ b8.toInt < z_mx z0.toInt))) → b9.toInt ≤ p2.toInt → -1 ≤ b9.toInt → z1.toInt = p1.toInt → z2.toInt = p2.toInt → z_MX M p2.toInt b7.toInt b9.toInt b8.toInt b4.toInt b5.toInt z0.toInt eg p2.toInt.toNat → z_LS (z_dB B t q p3.toInt.toNat) (2 ^ q) (z_Ar M 47) → z0.toInt = ((z_lc (z_dB B t q p3.toInt.toNat) (2 ^ q) : Nat) : Int) → z_mX p2.toInt.toNat q (z_dB B t q p3.toInt.toNat) (z_Ar M 43) b4.toInt b5.toInt b7.toInt b8.toInt b9.toInt → ((((0) * 8 + 4) * 742588 + (eg)) * 8 + 0) * 13 + (5 - b9.toInt) < (n : Int) → z_ev (d + 3) 273 305 [some (.ref 19), some (.int p1), some (.int p2), some (.int p3), some (.int b4), some (.int b5), some (.int b6), some (.int b7), some (.int b8), some (.int b9)] [] M K) := by
  intro n
  induction n with
  | zero => exact ⟨(by intros; exfalso; omega), (by intros; exfalso; omega), (by intro M b4 b5 o6 o7 o8 o9 z0 z1 z2 X hh0 hh1 hp0 hh3 hp1 hh5 hp2 hh7 hh8 hh9 hb hn hL hM hT hE; have hV := z_V5 hb (by omega) (by omega) (by omega); have hmx := z_mxf z0.toInt; exfalso; omega), (by intro M b4 b5 b6 o7 o8 o9 z0 z1 z2 eg X hh0 hh1 hh2 hp0 hh4 hp1 hh6 hp2 hh8 hh9 hh10 hb6 hn hE hL hM hO hS hE; have hmx := z_mxf z0.toInt; have hV := z_V5 hn (by omega) (by omega) (by omega); exfalso; omega), (by intro M b4 b5 b6 b7 o8 o9 z0 z1 z2 z3 z4 eg X hh0 hh1 hh2 hh3 hp0 hh5 hp1 hh7 hp2 hh9 hp3 hp4 hh12 hh13 hh14 hh15 hn hE hL hM hO hY hC hE; have hmx := z_mxf z0.toInt; have hV := z_V5 hn (by omega) (by omega) (by omega); exfalso; omega), (by intro M b4 b5 b6 b7 o8 o9 z0 z1 z2 eg X hh0 hh1 hh2 hh3 hp0 hh5 hp1 hh7 hp2 hh9 hh10 hh11 hh12 hh13 hn hE hL hM hO hD hJ hE; have hmx := z_mxf z0.toInt; have hV := z_V5 hn (by omega) (by omega) (by omega); exfalso; omega), (by intro M b4 b5 b6 b7 b8 b9 z0 z1 z2 eg X hh0 hh1 hh2 hh3 hh4 hh5 hp0 hh7 hp1 hh9 hp2 hh11 hh12 hh13 hh14 hh15 hh16 hh17 hx hL hM hX hE; have hmx := z_mxf z0.toInt; have hV := z_MXb hx (by omega) (by omega) (by omega); exfalso; omega)⟩
  | succ n ih =>
    refine ⟨?_, ?_, ?_, ?_, ?_, ?_, ?_⟩
    · skip
      intro M b4 z0 X hh0 hp0 hh2 hL hM hQ hE
      refine z_xP zt273 3 12 [some (.ref 19), some (.int p1), some (.int p2), some (.int p3), some (.int b4), none, none, none, none, none] [.ref 19, .int 1, .int b4] rfl rfl ?_
      have f19 : T[19]? = some (.inl (12, 0, 0, 0, 0)) := X.1.k rfl (by decide)
      refine z_xgX (b := 24) zt273 4 rfl zo273 zzf12_22 X f19 (by decide) (by decide) rfl ?_
      refine z_xP zt273 5 16 [some (.ref 19), some (.int p1), some (.int p2), some (.int p3), some (.int b4), none, none, none, none, none] [.int p1, .ref 24, .int 1, .int b4] rfl rfl ?_
      have f24 : T[24]? = some (.inr (24, 0, 8, 0, 10)) := X.1.k rfl (by decide)
      refine z_xil zt273 6 rfl X f24 (by decide) (by omega) (by omega) (fun (x1 : Int32) h2 (h3 : 0 ≤ x1.toInt) (h4 : x1.toInt ≤ 10) => ?_)
      refine z_xI zt273 7 rfl rfl (fun (x5 : Int32) (h6 : x5 = (1 : Int32) <<< (x1 &&& 31) ∧ 1 ≤ x5.toInt ∧ x5.toInt ≤ 1024) => ?_) (⟨rfl, z_pShlB (a := 1) (b := 10) (c := 1024) (r := 1024) rfl rfl (by omega) (by omega) (by omega) (by omega) (by decide) (by decide) (by decide) (by decide)⟩)
      refine z_xJ zt273 8 rfl rfl (fun (h7 : x5.toInt ≤ b4.toInt) => ?_) (fun (h7 : b4.toInt < x5.toInt) => ?_)
      · skip
        refine z_xP zt273 39 81 [some (.ref 19), some (.int p1), some (.int p2), some (.int p3), some (.int b4), none, none, none, none, none] [.int p1, .ref 19] rfl rfl ?_
        refine z_xpf zt273 40 rfl zo273 zzf12_242 X f19 (by decide) (by decide) ⟨by omega, by omega⟩ rfl (by decide) zw12_29 (fun M8 X9 e10 h11 => ?_)
        refine z_xP zt273 41 86 [some (.ref 19), some (.int p1), some (.int p2), some (.int p3), some (.int b4), none, none, none, none, none] [.int p2, .ref 19] rfl rfl ?_
        refine z_xpf zt273 42 rfl zo273 zzf12_245 X9 f19 (by decide) (by decide) ⟨by omega, by omega⟩ rfl (by decide) zw12_30 (fun M12 X13 e14 h15 => ?_)
        refine z_xP zt273 43 92 [some (.ref 19), some (.int p1), some (.int p2), some (.int p3), some (.int 0), none, none, none, none, none] [] rfl rfl ?_
        have h16 := (e14.f f19 (by decide) (e10.f f19 (by decide) hp0))
        have h17 := (e14.f f19 (by decide) h11)
        have eq19 := (congrArg Int32.toInt ((congrFun (X.2.a f24 (by decide)) _).symm.trans h2)).symm.trans hYS.1.1
        have i18 := z_2q1 (x := x1) (by omega) (by omega) h6.1
        rw [show x1.toInt.toNat = q from by omega] at i18
        have i20 : b4.toInt.toNat = 2 ^ q := by clear hL hM; generalize (2 : Nat) ^ q = P at *; omega
        have f47 : T[47]? = some (.inr (47, 0, 12, (-2147483648), 2147483647)) := X13.1.k rfl (by decide)
        have q0 : ((0 : Int32)).toInt = 0 := rfl
        exact ih.2.1 M12 (0) z0 p1 p2 X13 (by decide) h16 ⟨by omega, by omega⟩ h17 ⟨by omega, by omega⟩ h15 ⟨by omega, by omega⟩ (by omega) (by omega) (by omega) (by omega) (z_NB0 (by omega)) (by rw [i20] at hL; exact (by rw [show z_Ar M12 47 = z_Ar M 47 from ((e14.a f47 (by decide)).trans ((e10.a f47 (by decide)).trans rfl))]; exact hL)) (by rw [i20] at hM; exact hM) (by omega)
      refine z_xP zt273 9 22 [some (.ref 19), some (.int p1), some (.int p2), some (.int p3), some (.int b4), none, none, none, none, none] [.ref 19] rfl rfl ?_
      refine z_xgX (b := 29) zt273 10 rfl zo273 zzf12_37 X f19 (by decide) (by decide) rfl ?_
      refine z_xP zt273 11 29 [some (.ref 19), some (.int p1), some (.int p2), some (.int p3), some (.int b4), none, none, none, none, none] [.int p1, .int 1024, .ref 29] rfl rfl ?_
      refine z_xI zt273 12 rfl rfl (fun (x21 : Int32) (h22 : x21.toInt = 1024 * p1.toInt) => ?_) (z_pMul rfl rfl (by omega) (by omega))
      refine z_xP zt273 13 32 [some (.ref 19), some (.int p1), some (.int p2), some (.int p3), some (.int b4), none, none, none, none, none] [.int b4, .int x21, .ref 29] rfl rfl ?_
      refine z_xI zt273 14 rfl rfl (fun (x23 : Int32) (h24 : x23.toInt = x21.toInt + b4.toInt) => ?_) (z_pAdd rfl rfl (by omega) (by omega))
      have f29 : T[29]? = some (.inr (29, 0, 8192, (-2147483648), 2147483647)) := X.1.k rfl (by decide)
      refine z_xil zt273 15 rfl X f29 (by decide) (by omega) (by omega) (fun (x25 : Int32) h26 (h27 : (-2147483648) ≤ x25.toInt) (h28 : x25.toInt ≤ 2147483647) => ?_)
      refine z_xP zt273 16 36 [some (.ref 19), some (.int p1), some (.int p2), some (.int p3), some (.int b4), none, none, none, none, none] [.int (-1), .int p3, .int x25] rfl rfl ?_
      refine z_xI zt273 17 rfl rfl (fun (x29 : Int32) (h30 : x29 = p3 ^^^ ((-1) : Int32)) => ?_) (rfl)
      refine z_xI zt273 18 rfl rfl (fun (x31 : Int32) (h32 : x31 = x25 &&& x29) => ?_) (rfl)
      refine z_xZ zt273 19 rfl rfl (fun (h33 : x31.toInt ≠ 0) => ?_) (fun (h33 : x31.toInt = 0) => ?_)
      · skip
        refine z_xN zt273 37 rfl rfl (fun (x34 : Int32) (h35 : x34.toInt = b4.toInt + 1) => ?_) (z_pAdd rfl rfl (by omega) (by omega))
        show z_ev (d + 3) 273 76 [some (.ref 19), some (.int p1), some (.int p2), some (.int p3), some (.int x34), none, none, none, none, none] [] M _
        refine z_xP zt273 38 8 [some (.ref 19), some (.int p1), some (.int p2), some (.int p3), some (.int x34), none, none, none, none, none] [] rfl rfl ?_
        have i36 : x34.toInt.toNat = b4.toInt.toNat + 1 := by omega
        have eq39 := (congrArg Int32.toInt ((congrFun (X.2.a f24 (by decide)) _).symm.trans h2)).symm.trans hYS.1.1
        have i38 := z_2q1 (x := x1) (by omega) (by omega) h6.1
        rw [show x1.toInt.toNat = q from by omega] at i38
        have hk37 := z_dBI (s := b4) hYS ⟨by omega, by omega⟩ ((congrFun (X.2.a f29 (by decide)) _).symm.trans h26) (by unfold Int32.toNatClampNeg; omega) (by omega) h30 h32
        have i40 : x34.toInt.toNat = b4.toInt.toNat + 1 := by omega
        exact ih.1 M x34 z0 X ⟨by omega, by omega⟩ hp0 ⟨by omega, by omega⟩ (by rw [i36]; exact z_lsE hL (Nat.le_of_eq (z_lcN (fun hz => absurd (hk37.mpr hz) (by omega))))) (by rw [i40, z_lcN (fun hz => absurd (hk37.mpr hz) (by omega))]; exact hM) (by omega) (by omega)
      refine z_xP zt273 20 42 [some (.ref 19), some (.int p1), some (.int p2), some (.int p3), some (.int b4), none, none, none, none, none] [.ref 19] rfl rfl ?_
      refine z_xgv zt273 21 rfl zo273 zzf12_365 X f19 (by decide) hp0 ?_
      refine z_xP zt273 22 47 [some (.ref 19), some (.int p1), some (.int p2), some (.int p3), some (.int b4), none, none, none, none, none] [.int 12, .int z0] rfl rfl ?_
      refine z_xJ zt273 23 rfl rfl (fun (h41 : z0.toInt ≠ 12) => ?_) (fun (h41 : z0.toInt = 12) => ?_)
      · skip
        refine z_xP zt273 26 53 [some (.ref 19), some (.int p1), some (.int p2), some (.int p3), some (.int b4), none, none, none, none, none] [.ref 19] rfl rfl ?_
        refine z_xgX (b := 47) zt273 27 rfl zo273 zzf12_91 X f19 (by decide) (by decide) rfl ?_
        refine z_xP zt273 28 57 [some (.ref 19), some (.int p1), some (.int p2), some (.int p3), some (.int b4), none, none, none, none, none] [.ref 19, .ref 47] rfl rfl ?_
        refine z_xgv zt273 29 rfl zo273 zzf12_365 X f19 (by decide) hp0 ?_
        refine z_xP zt273 30 62 [some (.ref 19), some (.int p1), some (.int p2), some (.int p3), some (.int b4), none, none, none, none, none] [.int b4, .int z0, .ref 47] rfl rfl ?_
        have f47 : T[47]? = some (.inr (47, 0, 12, (-2147483648), 2147483647)) := X.1.k rfl (by decide)
        refine z_xis zt273 31 rfl X f47 (by decide) (by decide) (by omega) (by omega) (Int32.le_toInt _) (Int32.toInt_le _) (by decide) (fun M42 X43 e44 h45 => ?_)
        refine z_xP zt273 32 65 [some (.ref 19), some (.int p1), some (.int p2), some (.int p3), some (.int b4), none, none, none, none, none] [.ref 19, .ref 19] rfl rfl ?_
        have h46 := (e44.f f19 (by decide) hp0)
        refine z_xgv zt273 33 rfl zo273 zzf12_365 X43 f19 (by decide) h46 ?_
        refine z_xP zt273 34 69 [some (.ref 19), some (.int p1), some (.int p2), some (.int p3), some (.int b4), none, none, none, none, none] [.int 1, .int z0, .ref 19] rfl rfl ?_
        refine z_xI zt273 35 rfl rfl (fun (x47 : Int32) (h48 : x47.toInt = z0.toInt + 1) => ?_) (z_pAdd rfl rfl (by omega) (by omega))
        refine z_xpf zt273 36 rfl zo273 zzf12_365 X43 f19 (by decide) (by decide) ⟨by omega, by omega⟩ rfl (by decide) zw12_43 (fun M49 X50 e51 h52 => ?_)
        refine z_xN zt273 37 rfl rfl (fun (x53 : Int32) (h54 : x53.toInt = b4.toInt + 1) => ?_) (z_pAdd rfl rfl (by omega) (by omega))
        show z_ev (d + 3) 273 76 [some (.ref 19), some (.int p1), some (.int p2), some (.int p3), some (.int x53), none, none, none, none, none] [] M49 _
        refine z_xP zt273 38 8 [some (.ref 19), some (.int p1), some (.int p2), some (.int p3), some (.int x53), none, none, none, none, none] [] rfl rfl ?_
        have i55 : x53.toInt.toNat = b4.toInt.toNat + 1 := by omega
        have eq58 := (congrArg Int32.toInt ((congrFun (X.2.a f24 (by decide)) _).symm.trans h2)).symm.trans hYS.1.1
        have i57 := z_2q1 (x := x1) (by omega) (by omega) h6.1
        rw [show x1.toInt.toNat = q from by omega] at i57
        have hk56 := z_dBI (s := b4) hYS ⟨by omega, by omega⟩ ((congrFun (X.2.a f29 (by decide)) _).symm.trans h26) (by unfold Int32.toNatClampNeg; omega) (by omega) h30 h32
        have i59 : x53.toInt.toNat = b4.toInt.toNat + 1 := by omega
        exact ih.1 M49 x53 x47 X50 ⟨by omega, by omega⟩ h52 ⟨by omega, by omega⟩ (by rw [i55]; exact z_lsU hL (by show z0.toInt.toNat = _; omega) ((e51.a f47 (by decide)).trans (h45.trans (congrArg (fun f => upd f z0.toNatClampNeg b4) rfl))) (by omega)) (by rw [i59, z_lc1 (hk56.mp (by omega))]; omega) (by omega) (by omega)
      refine z_xP zt273 24 51 [some (.ref 19), some (.int p1), some (.int p2), some (.int p3), some (.int b4), none, none, none, none, none] [.int 0] rfl rfl ?_
      have q0 : ((0 : Int32)).toInt = 0 := rfl
      have eq62 := (congrArg Int32.toInt ((congrFun (X.2.a f24 (by decide)) _).symm.trans h2)).symm.trans hYS.1.1
      have i61 := z_2q1 (x := x1) (by omega) (by omega) h6.1
      rw [show x1.toInt.toNat = q from by omega] at i61
      have hk60 := z_dBI (s := b4) hYS ⟨by omega, by omega⟩ ((congrFun (X.2.a f29 (by decide)) _).symm.trans h26) (by unfold Int32.toNatClampNeg; omega) (by omega) h30 h32
      have hl63 := z_lc_lt (z_dB B t q p3.toInt.toNat) (show b4.toInt.toNat < 2 ^ q from by have := i61; clear hL hM; generalize (2 : Nat) ^ q = P at *; omega) (hk60.mp (by omega))
      have q0 : ((0 : Int32)).toInt = 0 := rfl
      exact z_xrz zt273 25 rfl zzr273 (by decide) (by decide) (kk 0 M X (by omega) (by omega) (Or.inr ⟨by omega, fun h => by have := h.1; omega⟩))
    · skip
      intro M b4 z0 z1 z2 X hh0 hp0 hh2 hp1 hh4 hp2 hh6 hh7 hh8 hh9 hh10 hz hL hM hE
      refine z_xP zt273 44 95 [some (.ref 19), some (.int p1), some (.int p2), some (.int p3), some (.int b4), none, none, none, none, none] [.int p2, .int b4] rfl rfl ?_
      refine z_xJ zt273 45 rfl rfl (fun (h1 : p2.toInt ≤ b4.toInt) => ?_) (fun (h1 : b4.toInt < p2.toInt) => ?_)
      · skip
        refine z_xP zt273 52 118 [some (.ref 19), some (.int p1), some (.int p2), some (.int p3), some (.int 1), some (.int 1), none, none, none, none] [] rfl rfl ?_
        have f19 : T[19]? = some (.inl (12, 0, 0, 0, 0)) := X.1.k rfl (by decide)
        have h2 : z_NB M p2.toInt 13 := z_NBw (z_NBm hz rfl (by omega) rfl) (by omega)
        have h3 := z_V5 h2 (by omega) (by omega) (by omega)
        have q1 : ((1 : Int32)).toInt = 1 := rfl
        have q1 : ((1 : Int32)).toInt = 1 := rfl
        exact ih.2.2.1 M (1) (1) none none none none z0 z1 z2 X (by decide) (by decide) hp0 ⟨by omega, by omega⟩ hp1 ⟨by omega, by omega⟩ hp2 ⟨by omega, by omega⟩ (by omega) (by omega) h2 (fun _ _ => z_NBw (z_NBm hz rfl (by omega) rfl) (by have h6 := z_mxf z0.toInt; omega)) hL hM (z_mT0 (n2 := p2.toInt) (z_NBm hz rfl (by omega) rfl) (by omega) hYS.L1 rfl rfl) (by omega)
      refine z_xP zt273 46 99 [some (.ref 19), some (.int p1), some (.int p2), some (.int p3), some (.int b4), none, none, none, none, none] [.ref 19] rfl rfl ?_
      have f19 : T[19]? = some (.inl (12, 0, 0, 0, 0)) := X.1.k rfl (by decide)
      refine z_xgX (b := 43) zt273 47 rfl zo273 zzf12_79 X f19 (by decide) (by decide) rfl ?_
      refine z_xP zt273 48 105 [some (.ref 19), some (.int p1), some (.int p2), some (.int p3), some (.int b4), none, none, none, none, none] [.int 0, .int b4, .ref 43] rfl rfl ?_
      have f43 : T[43]? = some (.inr (43, 0, 9, 0, 1023)) := X.1.k rfl (by decide)
      have q0 : ((0 : Int32)).toInt = 0 := rfl
      refine z_xis zt273 49 rfl X f43 (by decide) (by decide) (by omega) (by omega) (by omega) (by omega) (by decide) (fun M4 X5 e6 h7 => ?_)
      refine z_xN zt273 50 rfl rfl (fun (x8 : Int32) (h9 : x8.toInt = b4.toInt + 1) => ?_) (z_pAdd rfl rfl (by omega) (by omega))
      show z_ev (d + 3) 273 109 [some (.ref 19), some (.int p1), some (.int p2), some (.int p3), some (.int x8), none, none, none, none, none] [] M4 _
      refine z_xP zt273 51 92 [some (.ref 19), some (.int p1), some (.int p2), some (.int p3), some (.int x8), none, none, none, none, none] [] rfl rfl ?_
      have h10 := (e6.f f19 (by decide) hp0)
      have h11 := (e6.f f19 (by decide) hp1)
      have h12 := (e6.f f19 (by decide) hp2)
      have f47 : T[47]? = some (.inr (47, 0, 12, (-2147483648), 2147483647)) := X5.1.k rfl (by decide)
      exact ih.2.1 M4 x8 z0 z1 z2 X5 ⟨by omega, by omega⟩ h10 ⟨by omega, by omega⟩ h11 ⟨by omega, by omega⟩ h12 ⟨by omega, by omega⟩ (by omega) (by omega) (by omega) (by omega) (z_NBs hz h7 rfl (by omega) (by omega) (by omega) (by omega)) (by rw [show z_Ar M4 47 = z_Ar M 47 from ((e6.a f47 (by decide)).trans rfl)]; exact hL) hM (by omega)
    · skip
      intro M b4 b5 o6 o7 o8 o9 z0 z1 z2 X hh0 hh1 hp0 hh3 hp1 hh5 hp2 hh7 hh8 hh9 hb hn hL hM hT hE
      have hV := z_V5 hb (by omega) (by omega) (by omega)
      have hmx := z_mxf z0.toInt
      refine z_xP zt273 53 120 [some (.ref 19), some (.int p1), some (.int p2), some (.int p3), some (.int b4), some (.int b5), o6, o7, o8, o9] [.int b5] rfl rfl ?_
      refine z_xZ zt273 54 rfl rfl (fun (h1 : b5.toInt = 0) => ?_) (fun (h1 : b5.toInt ≠ 0) => ?_)
      · skip
        refine z_xP zt273 140 336 [some (.ref 19), some (.int p1), some (.int p2), some (.int p3), some (.int b4), some (.int b5), o6, o7, o8, o9] [.int b4] rfl rfl ?_
        exact z_xrz zt273 141 rfl zzr273 (by omega) (by omega) (kk b4 M X (by omega) (by omega) (z_mTE hT (by omega) (by omega) rfl))
      refine z_xP zt273 55 125 [some (.ref 19), some (.int p1), some (.int p2), some (.int p3), some (.int b4), some (.int b5), o6, o7, o8, o9] [.int b4] rfl rfl ?_
      refine z_xZ zt273 56 rfl rfl (fun (h2 : b4.toInt = 0) => ?_) (fun (h2 : b4.toInt ≠ 0) => ?_)
      · skip
        refine z_xP zt273 140 336 [some (.ref 19), some (.int p1), some (.int p2), some (.int p3), some (.int b4), some (.int b5), o6, o7, o8, o9] [.int b4] rfl rfl ?_
        exact z_xrz zt273 141 rfl zzr273 (by omega) (by omega) (kk b4 M X (by omega) (by omega) (z_mTE hT (by omega) (by omega) rfl))
      refine z_xP zt273 57 131 [some (.ref 19), some (.int p1), some (.int p2), some (.int p3), some (.int b4), some (.int b5), some (.int 0), o7, o8, o9] [] rfl rfl ?_
      have f19 : T[19]? = some (.inl (12, 0, 0, 0, 0)) := X.1.k rfl (by decide)
      have q0 : ((0 : Int32)).toInt = 0 := rfl
      have q0 : ((0 : Int32)).toInt = 0 := rfl
      exact ih.2.2.2.1 M b4 b5 (0) (o7) (o8) (o9) z0 z1 z2 (2 * (371293 - z_V 13 (z_Ar M 43) p2.toInt.toNat) + 1) X ⟨by omega, by omega⟩ ⟨by omega, by omega⟩ (by decide) hp0 ⟨by omega, by omega⟩ hp1 ⟨by omega, by omega⟩ hp2 ⟨by omega, by omega⟩ (by omega) (by omega) (by omega) (hn (by omega) (by omega)) (by omega) hL hM (z_mTO hT (by omega) (by omega)) (z_sts0 rfl) (by omega)
    · skip
      intro M b4 b5 b6 o7 o8 o9 z0 z1 z2 eg X hh0 hh1 hh2 hp0 hh4 hp1 hh6 hp2 hh8 hh9 hh10 hb6 hn hE hL hM hO hS hE
      have hmx := z_mxf z0.toInt
      have hV := z_V5 hn (by omega) (by omega) (by omega)
      refine z_xP zt273 58 134 [some (.ref 19), some (.int p1), some (.int p2), some (.int p3), some (.int b4), some (.int b5), some (.int b6), o7, o8, o9] [.int p2, .int b6] rfl rfl ?_
      refine z_xJ zt273 59 rfl rfl (fun (h1 : p2.toInt ≤ b6.toInt) => ?_) (fun (h1 : b6.toInt < p2.toInt) => ?_)
      · skip
        refine z_xP zt273 70 163 [some (.ref 19), some (.int p1), some (.int p2), some (.int p3), some (.int b4), some (.int b5), some (.int b6), o7, o8, o9] [.int 0, .ref 19] rfl rfl ?_
        have f19 : T[19]? = some (.inl (12, 0, 0, 0, 0)) := X.1.k rfl (by decide)
        have q0 : ((0 : Int32)).toInt = 0 := rfl
        refine z_xpf zt273 71 rfl zo273 zzf12_275 X f19 (by decide) (by decide) ⟨by omega, by omega⟩ rfl (by decide) zw12_34 (fun M2 X3 e4 h5 => ?_)
        refine z_xP zt273 72 168 [some (.ref 19), some (.int p1), some (.int p2), some (.int p3), some (.int b4), some (.int b5), some (.int b6), o7, o8, o9] [.int 0, .ref 19] rfl rfl ?_
        have q0 : ((0 : Int32)).toInt = 0 := rfl
        refine z_xpf zt273 73 rfl zo273 zzf12_278 X3 f19 (by decide) (by decide) ⟨by omega, by omega⟩ rfl (by decide) zw12_35 (fun M6 X7 e8 h9 => ?_)
        refine z_xP zt273 74 173 [some (.ref 19), some (.int p1), some (.int p2), some (.int p3), some (.int b4), some (.int b5), some (.int b6), o7, o8, o9] [.ref 19, .ref 19] rfl rfl ?_
        refine z_xcV (vs := [.ref 19]) (r := [.ref 19]) (L2 := [some (.ref 19)]) zt273 75 rfl zo273 zzcV12_248 (Or.inl rfl) rfl X7 f19 rfl rfl rfl (Nat.le_of_ble_eq_true rfl) zzm240 (Nat.le_of_ble_eq_true rfl) rfl ?_
        refine z_xP zt240 0 2 [some (.ref 19)] [.ref 19, .int 1] rfl rfl ?_
        refine z_xgX (b := 24) zt240 1 rfl zo240 zzf12_22 X7 f19 (by decide) (by decide) rfl ?_
        refine z_xP zt240 2 6 [some (.ref 19)] [.ref 19, .ref 24, .int 1] rfl rfl ?_
        have h10 := (e8.f f19 (by decide) (e4.f f19 (by decide) hp1))
        refine z_xgv zt240 3 rfl zo240 zzf12_242 X7 f19 (by decide) h10 ?_
        have f24 : T[24]? = some (.inr (24, 0, 8, 0, 10)) := X7.1.k rfl (by decide)
        refine z_xil zt240 4 rfl X7 f24 (by decide) (by omega) (by omega) (fun (x11 : Int32) h12 (h13 : 0 ≤ x11.toInt) (h14 : x11.toInt ≤ 10) => ?_)
        refine z_xI zt240 5 rfl rfl (fun (x15 : Int32) (h16 : x15 = (1 : Int32) <<< (x11 &&& 31) ∧ 1 ≤ x15.toInt ∧ x15.toInt ≤ 1024) => ?_) (⟨rfl, z_pShlB (a := 1) (b := 10) (c := 1024) (r := 1024) rfl rfl (by omega) (by omega) (by omega) (by omega) (by decide) (by decide) (by decide) (by decide)⟩)
        refine z_xP zt240 6 12 [some (.ref 19)] [.int 1, .int x15] rfl rfl ?_
        refine z_xI zt240 7 rfl rfl (fun (x17 : Int32) (h18 : x17.toInt = x15.toInt - 1) => ?_) (z_pSub rfl rfl (by omega) (by omega))
        refine z_xri zt240 8 rfl zzr240 ?_
        show z_ev (d + 3) 273 176 [some (.ref 19), some (.int p1), some (.int p2), some (.int p3), some (.int b4), some (.int b5), some (.int b6), o7, o8, o9] [.int x17, .ref 19] M6 _
        refine z_xcV (vs := [.ref 19, .int x17]) (r := []) (L2 := [some (.ref 19), some (.int x17), none]) zt273 76 rfl zo273 zzcV12_288 (Or.inl rfl) rfl X7 f19 rfl rfl rfl (Nat.le_of_ble_eq_true rfl) zzm241 (Nat.le_of_ble_eq_true rfl) rfl ?_
        have h19 := (e8.f f19 (by decide) (e4.f f19 (by decide) hp2))
        have ew22 : z1 = p1 := Int32.toInt_inj.mp (by omega)
        have eq20 : x11.toInt = (q : Int) := (congrArg Int32.toInt ((congrFun (X.2.a f24 (by decide)) _).symm.trans ((congrFun (e4.a f24 (by decide)) _).symm.trans ((congrFun (e8.a f24 (by decide)) _).symm.trans h12)))).symm.trans (by rw [ew22]; exact hYS.1.1)
        have i21 := z_2q1 (x := x11) (by omega) (by omega) h16.1
        rw [show x11.toInt.toNat = q from by omega] at i21
        have al23 : x17.toInt = ((2 ^ q : Nat) : Int) - 1 := by omega
        have h24 := (e8.f f19 (by decide) h5)
        refine zUC241 X7.1 h19 ⟨by omega, by omega⟩ h10 ⟨by omega, by omega⟩ (by rw [X7.2.a f24 (by decide), show z1 = p1 from Int32.toInt_inj.mp (by omega)]; exact hYS.1.1) (by omega) h24 h9 (fun M25 X26 h27 => ?_)
        have X28 := X7.go X26 (z_sb (by decide))
        show z_ev (d + 3) 273 179 [some (.ref 19), some (.int p1), some (.int p2), some (.int p3), some (.int b4), some (.int b5), some (.int b6), o7, o8, o9] [] M25 _
        obtain ⟨y30, n31, ey32, en33, hy34, hn35⟩ := h27
        refine z_xP zt273 77 185 [some (.ref 19), some (.int p1), some (.int p2), some (.int p3), some (.int b4), some (.int b5), some (.int 0), some (.int 0), o8, o9] [] rfl rfl ?_
        have h36 := (X26.2.f f19 (by decide) (e8.f f19 (by decide) (e4.f f19 (by decide) hp0)))
        have h37 := (X26.2.f f19 (by decide) h10)
        have h38 := (X26.2.f f19 (by decide) h19)
        have f43 : T[43]? = some (.inr (43, 0, 9, 0, 1023)) := X28.1.k rfl (by decide)
        have h39 := z_Ve (b := 13) (n := p2.toInt.toNat) (e4.a f43 (by decide))
        have h40 := z_Ve (b := 13) (n := p2.toInt.toNat) (e8.a f43 (by decide))
        have h41 := z_Ve (b := 13) (n := p2.toInt.toNat) (X26.2.a f43 (by decide))
        have f47 : T[47]? = some (.inr (47, 0, 12, (-2147483648), 2147483647)) := X28.1.k rfl (by decide)
        have f39 : T[39]? = some (.inr (39, 0, 9, (-2147483648), 2147483647)) := X28.1.k rfl (by decide)
        have f40 : T[40]? = some (.inr (40, 0, 9, (-2147483648), 2147483647)) := X28.1.k rfl (by decide)
        have f41 : T[41]? = some (.inr (41, 0, 9, (-2147483648), 2147483647)) := X28.1.k rfl (by decide)
        rw [show z_Ar M6 39 = z_Ar M 39 from ((e8.a f39 (by decide)).trans ((e4.a f39 (by decide)).trans rfl)), show z_Ar M6 40 = z_Ar M 40 from ((e8.a f40 (by decide)).trans ((e4.a f40 (by decide)).trans rfl)), show z_Ar M6 41 = z_Ar M 41 from ((e8.a f41 (by decide)).trans ((e4.a f41 (by decide)).trans rfl))] at hy34 hn35
        have i42 : b6.toInt.toNat = p2.toInt.toNat := by omega
        have q0 : ((0 : Int32)).toInt = 0 := rfl
        have q0 : ((0 : Int32)).toInt = 0 := rfl
        exact ih.2.2.2.2.1 M25 b4 b5 (0) (0) (o8) (o9) z0 z1 z2 y30 n31 eg X28 ⟨by omega, by omega⟩ ⟨by omega, by omega⟩ (by decide) (by decide) h36 ⟨by omega, by omega⟩ h37 ⟨by omega, by omega⟩ h38 ⟨by omega, by omega⟩ ey32 en33 (by omega) (by omega) (by omega) (by omega) (z_NBm (z_NBm (z_NBm hn (e4.a f43 (by decide)) rfl rfl) (e8.a f43 (by decide)) rfl rfl) (X26.2.a f43 (by decide)) rfl rfl) (by omega) (by rw [show z_Ar M25 47 = z_Ar M 47 from ((X26.2.a f47 (by decide)).trans ((e8.a f47 (by decide)).trans ((e4.a f47 (by decide)).trans rfl)))]; exact hL) hM (by rw [show z_Ar M25 43 = z_Ar M 43 from ((X26.2.a f43 (by decide)).trans ((e8.a f43 (by decide)).trans ((e4.a f43 (by decide)).trans rfl)))]; exact hO) (by rw [show z_Ar M25 43 = z_Ar M 43 from ((X26.2.a f43 (by decide)).trans ((e8.a f43 (by decide)).trans ((e4.a f43 (by decide)).trans rfl)))]; exact z_mYI (by rw [i42] at hS; exact hS) (by omega) hYS.2.2.1.2 al23 (by omega) hy34 hn35) (z_cn0 rfl rfl) (by omega)
      refine z_xP zt273 60 141 [some (.ref 19), some (.int p1), some (.int p2), some (.int p3), some (.int b4), some (.int b5), some (.int b6), o7, o8, o9] [.ref 19, .int b6, .ref 19] rfl rfl ?_
      have f19 : T[19]? = some (.inl (12, 0, 0, 0, 0)) := X.1.k rfl (by decide)
      refine z_xgX (b := 47) zt273 61 rfl zo273 zzf12_91 X f19 (by decide) (by decide) rfl ?_
      refine z_xP zt273 62 145 [some (.ref 19), some (.int p1), some (.int p2), some (.int p3), some (.int b4), some (.int b5), some (.int b6), o7, o8, o9] [.ref 19, .ref 47, .int b6, .ref 19] rfl rfl ?_
      refine z_xgX (b := 43) zt273 63 rfl zo273 zzf12_79 X f19 (by decide) (by decide) rfl ?_
      refine z_xP zt273 64 150 [some (.ref 19), some (.int p1), some (.int p2), some (.int p3), some (.int b4), some (.int b5), some (.int b6), o7, o8, o9] [.int b6, .ref 43, .ref 47, .int b6, .ref 19] rfl rfl ?_
      have f43 : T[43]? = some (.inr (43, 0, 9, 0, 1023)) := X.1.k rfl (by decide)
      refine z_xil zt273 65 rfl X f43 (by decide) (by omega) (by omega) (fun (x43 : Int32) h44 (h45 : 0 ≤ x43.toInt) (h46 : x43.toInt ≤ 1023) => ?_)
      have h47 := z_NBl hn h44 (by omega) (by omega)
      have f47 : T[47]? = some (.inr (47, 0, 12, (-2147483648), 2147483647)) := X.1.k rfl (by decide)
      refine z_xil zt273 66 rfl X f47 (by decide) (by omega) (by omega) (fun (x48 : Int32) h49 (h50 : (-2147483648) ≤ x48.toInt) (h51 : x48.toInt ≤ 2147483647) => ?_)
      refine z_xcV (vs := [.ref 19, .int b6, .int x48]) (r := []) (L2 := [some (.ref 19), some (.int b6), some (.int x48)]) zt273 67 rfl zo273 zzcV12_315 (Or.inl rfl) rfl X f19 rfl rfl rfl (Nat.le_of_ble_eq_true rfl) zzm254 (Nat.le_of_ble_eq_true rfl) rfl ?_
      refine z_xP zt254 0 1 [some (.ref 19), some (.int b6), some (.int x48)] [.ref 19] rfl rfl ?_
      refine z_xgX (b := 39) zt254 1 rfl zo254 zzf12_67 X f19 (by decide) (by decide) rfl ?_
      refine z_xP zt254 2 6 [some (.ref 19), some (.int b6), some (.int x48)] [.int 1, .int b6, .ref 39] rfl rfl ?_
      have f39 : T[39]? = some (.inr (39, 0, 9, (-2147483648), 2147483647)) := X.1.k rfl (by decide)
      have q1 : ((1 : Int32)).toInt = 1 := rfl
      refine z_xis zt254 3 rfl X f39 (by decide) (by decide) (by omega) (by omega) (by omega) (by omega) (by decide) (fun M52 X53 e54 h55 => ?_)
      have q1 : ((1 : Int32)).toInt = 1 := rfl
      refine z_xP zt254 4 8 [some (.ref 19), some (.int b6), some (.int x48)] [.ref 19] rfl rfl ?_
      refine z_xgX (b := 40) zt254 5 rfl zo254 zzf12_70 X53 f19 (by decide) (by decide) rfl ?_
      refine z_xP zt254 6 13 [some (.ref 19), some (.int b6), some (.int x48)] [.int x48, .int b6, .ref 40] rfl rfl ?_
      have f40 : T[40]? = some (.inr (40, 0, 9, (-2147483648), 2147483647)) := X53.1.k rfl (by decide)
      refine z_xis zt254 7 rfl X53 f40 (by decide) (by decide) (by omega) (by omega) (Int32.le_toInt _) (Int32.toInt_le _) (by decide) (fun M56 X57 e58 h59 => ?_)
      refine z_xP zt254 8 15 [some (.ref 19), some (.int b6), some (.int x48)] [.ref 19] rfl rfl ?_
      refine z_xgX (b := 41) zt254 9 rfl zo254 zzf12_73 X57 f19 (by decide) (by decide) rfl ?_
      refine z_xP zt254 10 20 [some (.ref 19), some (.int b6), some (.int x48)] [.ref 19, .int b6, .ref 41] rfl rfl ?_
      refine z_xcV (vs := [.ref 19]) (r := [.int b6, .ref 41]) (L2 := [some (.ref 19)]) zt254 11 rfl zo254 zzcV12_248 (Or.inl rfl) rfl X57 f19 rfl rfl rfl (Nat.le_of_ble_eq_true rfl) zzm240 (Nat.le_of_ble_eq_true rfl) rfl ?_
      refine z_xP zt240 0 2 [some (.ref 19)] [.ref 19, .int 1] rfl rfl ?_
      refine z_xgX (b := 24) zt240 1 rfl zo240 zzf12_22 X57 f19 (by decide) (by decide) rfl ?_
      refine z_xP zt240 2 6 [some (.ref 19)] [.ref 19, .ref 24, .int 1] rfl rfl ?_
      have h60 := (e58.f f19 (by decide) (e54.f f19 (by decide) hp1))
      refine z_xgv zt240 3 rfl zo240 zzf12_242 X57 f19 (by decide) h60 ?_
      have f24 : T[24]? = some (.inr (24, 0, 8, 0, 10)) := X57.1.k rfl (by decide)
      refine z_xil zt240 4 rfl X57 f24 (by decide) (by omega) (by omega) (fun (x61 : Int32) h62 (h63 : 0 ≤ x61.toInt) (h64 : x61.toInt ≤ 10) => ?_)
      refine z_xI zt240 5 rfl rfl (fun (x65 : Int32) (h66 : x65 = (1 : Int32) <<< (x61 &&& 31) ∧ 1 ≤ x65.toInt ∧ x65.toInt ≤ 1024) => ?_) (⟨rfl, z_pShlB (a := 1) (b := 10) (c := 1024) (r := 1024) rfl rfl (by omega) (by omega) (by omega) (by omega) (by decide) (by decide) (by decide) (by decide)⟩)
      refine z_xP zt240 6 12 [some (.ref 19)] [.int 1, .int x65] rfl rfl ?_
      refine z_xI zt240 7 rfl rfl (fun (x67 : Int32) (h68 : x67.toInt = x65.toInt - 1) => ?_) (z_pSub rfl rfl (by omega) (by omega))
      refine z_xri zt240 8 rfl zzr240 ?_
      show z_ev (d + 2) 254 23 [some (.ref 19), some (.int b6), some (.int x48)] [.int x67, .int b6, .ref 41] M56 _
      refine z_xP zt254 12 25 [some (.ref 19), some (.int b6), some (.int x48)] [.int (-1), .int x48, .int x67, .int b6, .ref 41] rfl rfl ?_
      refine z_xI zt254 13 rfl rfl (fun (x69 : Int32) (h70 : x69 = x48 ^^^ ((-1) : Int32)) => ?_) (rfl)
      refine z_xI zt254 14 rfl rfl (fun (x71 : Int32) (h72 : x71 = x67 &&& x69) => ?_) (rfl)
      have f41 : T[41]? = some (.inr (41, 0, 9, (-2147483648), 2147483647)) := X57.1.k rfl (by decide)
      refine z_xis zt254 15 rfl X57 f41 (by decide) (by decide) (by omega) (by omega) (Int32.le_toInt _) (Int32.toInt_le _) (by decide) (fun M73 X74 e75 h76 => ?_)
      refine z_xrv zt254 16 rfl zzr254 ?_
      show z_ev (d + 3) 273 155 [some (.ref 19), some (.int p1), some (.int p2), some (.int p3), some (.int b4), some (.int b5), some (.int b6), o7, o8, o9] [] M73 _
      refine z_xN zt273 68 rfl rfl (fun (x77 : Int32) (h78 : x77.toInt = b6.toInt + 1) => ?_) (z_pAdd rfl rfl (by omega) (by omega))
      show z_ev (d + 3) 273 158 [some (.ref 19), some (.int p1), some (.int p2), some (.int p3), some (.int b4), some (.int b5), some (.int x77), o7, o8, o9] [] M73 _
      refine z_xP zt273 69 131 [some (.ref 19), some (.int p1), some (.int p2), some (.int p3), some (.int b4), some (.int b5), some (.int x77), o7, o8, o9] [] rfl rfl ?_
      have h79 := (e75.f f19 (by decide) (e58.f f19 (by decide) (e54.f f19 (by decide) hp0)))
      have h80 := (e75.f f19 (by decide) h60)
      have h81 := (e75.f f19 (by decide) (e58.f f19 (by decide) (e54.f f19 (by decide) hp2)))
      have h82 := z_Ve (b := 13) (n := p2.toInt.toNat) (e54.a f43 (by decide))
      have h83 := z_Ve (b := 13) (n := p2.toInt.toNat) (e58.a f43 (by decide))
      have h84 := z_Ve (b := 13) (n := p2.toInt.toNat) (e75.a f43 (by decide))
      have ew87 : z1 = p1 := Int32.toInt_inj.mp (by omega)
      have eq85 : x61.toInt = (q : Int) := (congrArg Int32.toInt ((congrFun (X.2.a f24 (by decide)) _).symm.trans ((congrFun (e54.a f24 (by decide)) _).symm.trans ((congrFun (e58.a f24 (by decide)) _).symm.trans h62)))).symm.trans (by rw [ew87]; exact hYS.1.1)
      have i86 := z_2q1 (x := x61) (by omega) (by omega) h66.1
      rw [show x61.toInt.toNat = q from by omega] at i86
      have al88 : x67.toInt = ((2 ^ q : Nat) : Int) - 1 := by omega
      have hb89 := hO.1.1 b6.toInt.toNat (by omega)
      rw [show z_nuM (z_Ar M 43) b6.toInt.toNat = x43.toInt.toNat from congrArg (fun y => y.toInt.toNat) h44] at hb89
      exact ih.2.2.2.1 M73 b4 b5 x77 (o7) (o8) (o9) z0 z1 z2 eg X74 ⟨by omega, by omega⟩ ⟨by omega, by omega⟩ ⟨by omega, by omega⟩ h79 ⟨by omega, by omega⟩ h80 ⟨by omega, by omega⟩ h81 ⟨by omega, by omega⟩ (by omega) (by omega) (by omega) (z_NBm (z_NBm (z_NBm hn (e54.a f43 (by decide)) rfl rfl) (e58.a f43 (by decide)) rfl rfl) (e75.a f43 (by decide)) rfl rfl) (by omega) (by rw [show z_Ar M73 47 = z_Ar M 47 from ((e75.a f47 (by decide)).trans ((e58.a f47 (by decide)).trans ((e54.a f47 (by decide)).trans rfl)))]; exact hL) hM (by rw [show z_Ar M73 43 = z_Ar M 43 from ((e75.a f43 (by decide)).trans ((e58.a f43 (by decide)).trans ((e54.a f43 (by decide)).trans rfl)))]; exact hO) (by rw [show z_Ar M73 43 = z_Ar M 43 from ((e75.a f43 (by decide)).trans ((e58.a f43 (by decide)).trans ((e54.a f43 (by decide)).trans rfl)))]; exact (z_stsS hS (by omega) (by omega) ((e75.a f39 (by decide)).trans ((e58.a f39 (by decide)).trans (h55.trans (congrArg (fun f => upd f b6.toNatClampNeg (1 : Int32)) rfl)))) ((e75.a f40 (by decide)).trans (h59.trans (congrArg (fun f => upd f b6.toNatClampNeg x48) ((e54.a f40 (by decide)).trans rfl)))) (h76.trans (congrArg (fun f => upd f b6.toNatClampNeg x71) ((e58.a f41 (by decide)).trans ((e54.a f41 (by decide)).trans rfl)))) (z_nthI hL h44 ⟨by omega, by omega⟩ h49) hYS.2.2.1.2 al88 h70 h72)) (by omega)
    · skip
      intro M b4 b5 b6 b7 o8 o9 z0 z1 z2 z3 z4 eg X hh0 hh1 hh2 hh3 hp0 hh5 hp1 hh7 hp2 hh9 hp3 hp4 hh12 hh13 hh14 hh15 hn hE hL hM hO hY hC hE
      have hmx := z_mxf z0.toInt
      have hV := z_V5 hn (by omega) (by omega) (by omega)
      refine z_xP zt273 78 188 [some (.ref 19), some (.int p1), some (.int p2), some (.int p3), some (.int b4), some (.int b5), some (.int b6), some (.int b7), o8, o9] [.ref 19, .int b7] rfl rfl ?_
      have f19 : T[19]? = some (.inl (12, 0, 0, 0, 0)) := X.1.k rfl (by decide)
      refine z_xgv zt273 79 rfl zo273 zzf12_365 X f19 (by decide) hp0 ?_
      refine z_xJ zt273 80 rfl rfl (fun (h1 : z0.toInt ≤ b7.toInt) => ?_) (fun (h1 : b7.toInt < z0.toInt) => ?_)
      · skip
        refine z_xP zt273 98 239 [some (.ref 19), some (.int p1), some (.int p2), some (.int p3), some (.int b6), some (.int b5), some (.int b6), some (.int b7), o8, o9] [.int 1, .int p2] rfl rfl ?_
        refine z_xI zt273 99 rfl rfl (fun (x2 : Int32) (h3 : x2.toInt = p2.toInt - 1) => ?_) (z_pSub rfl rfl (by omega) (by omega))
        refine z_xP zt273 100 242 [some (.ref 19), some (.int p1), some (.int p2), some (.int p3), some (.int b6), some (.int b5), some (.int b6), some (.int x2), o8, o9] [] rfl rfl ?_
        have i4 : b7.toInt.toNat = z_lc (z_dB B t q p3.toInt.toNat) (2 ^ q) := by omega
        exact ih.2.2.2.2.2.1 M b6 b5 b6 x2 (o8) (o9) z0 z1 z2 eg X ⟨by omega, by omega⟩ ⟨by omega, by omega⟩ ⟨by omega, by omega⟩ ⟨by omega, by omega⟩ hp0 ⟨by omega, by omega⟩ hp1 ⟨by omega, by omega⟩ hp2 ⟨by omega, by omega⟩ (by omega) (by omega) (by omega) (by omega) hn (by omega) hL hM hO (z_cnE hYS.2.2.1.2 hY hL hC i4 (by omega)) (z_mJ0 (by omega)) (by omega)
      refine z_xP zt273 81 196 [some (.ref 19), some (.int p1), some (.int p2), some (.int p3), some (.int b4), some (.int b5), some (.int b6), some (.int b7), o8, o9] [.int b6] rfl rfl ?_
      refine z_xZ zt273 82 rfl rfl (fun (h5 : b6.toInt ≠ 0) => ?_) (fun (h5 : b6.toInt = 0) => ?_)
      · skip
        refine z_xP zt273 93 225 [some (.ref 19), some (.int p1), some (.int p2), some (.int p3), some (.int b4), some (.int b5), some (.int b6), some (.int b7), o8, o9] [.int 1] rfl rfl ?_
        refine z_xP zt273 95 227 [some (.ref 19), some (.int p1), some (.int p2), some (.int p3), some (.int b4), some (.int b5), some (.int 1), some (.int b7), o8, o9] [] rfl rfl ?_
        refine z_xN zt273 96 rfl rfl (fun (x6 : Int32) (h7 : x6.toInt = b7.toInt + 1) => ?_) (z_pAdd rfl rfl (by omega) (by omega))
        show z_ev (d + 3) 273 230 [some (.ref 19), some (.int p1), some (.int p2), some (.int p3), some (.int b4), some (.int b5), some (.int 1), some (.int x6), o8, o9] [] M _
        refine z_xP zt273 97 185 [some (.ref 19), some (.int p1), some (.int p2), some (.int p3), some (.int b4), some (.int b5), some (.int 1), some (.int x6), o8, o9] [] rfl rfl ?_
        have q1 : ((1 : Int32)).toInt = 1 := rfl
        have i8 : x6.toInt.toNat = b7.toInt.toNat + 1 := by omega
        have q1 : ((1 : Int32)).toInt = 1 := rfl
        exact ih.2.2.2.2.1 M b4 b5 (1) x6 (o8) (o9) z0 z1 z2 z3 z4 eg X ⟨by omega, by omega⟩ ⟨by omega, by omega⟩ (by decide) ⟨by omega, by omega⟩ hp0 ⟨by omega, by omega⟩ hp1 ⟨by omega, by omega⟩ hp2 ⟨by omega, by omega⟩ hp3 hp4 (by omega) (by omega) (by omega) (by omega) hn (by omega) hL hM hO hY (by rw [i8]; exact z_cnK hC (by omega) (by omega)) (by omega)
      refine z_xP zt273 83 200 [some (.ref 19), some (.int p1), some (.int p2), some (.int p3), some (.int b4), some (.int b5), some (.int b6), some (.int b7), o8, o9] [.ref 19] rfl rfl ?_
      refine z_xgX (b := 47) zt273 84 rfl zo273 zzf12_91 X f19 (by decide) (by decide) rfl ?_
      refine z_xP zt273 85 205 [some (.ref 19), some (.int p1), some (.int p2), some (.int p3), some (.int b4), some (.int b5), some (.int b6), some (.int b7), o8, o9] [.int b7, .ref 47] rfl rfl ?_
      have f47 : T[47]? = some (.inr (47, 0, 12, (-2147483648), 2147483647)) := X.1.k rfl (by decide)
      refine z_xil zt273 86 rfl X f47 (by decide) (by omega) (by omega) (fun (x9 : Int32) h10 (h11 : (-2147483648) ≤ x9.toInt) (h12 : x9.toInt ≤ 2147483647) => ?_)
      refine z_xP zt273 87 207 [some (.ref 19), some (.int p1), some (.int p2), some (.int p3), some (.int b4), some (.int b5), some (.int b6), some (.int b7), o8, o9] [.ref 19, .int x9] rfl rfl ?_
      refine z_xgv zt273 88 rfl zo273 zzf12_275 X f19 (by decide) hp3 ?_
      refine z_xP zt273 89 211 [some (.ref 19), some (.int p1), some (.int p2), some (.int p3), some (.int b4), some (.int b5), some (.int b6), some (.int b7), o8, o9] [.ref 19, .int z3, .int x9] rfl rfl ?_
      refine z_xgv zt273 90 rfl zo273 zzf12_278 X f19 (by decide) hp4 ?_
      refine z_xcS (vs := [.int x9, .int z3, .int z4]) (r := []) (L2 := [some (.int x9), some (.int z3), some (.int z4)]) zt273 91 rfl zo273 zzcS12_216 (Or.inl rfl) (Nat.le_of_ble_eq_true rfl) rfl rfl (Nat.le_of_ble_eq_true rfl) zzm216 (Nat.le_of_ble_eq_true rfl) rfl ?_
      refine z_xP zt216 0 2 [some (.int x9), some (.int z3), some (.int z4)] [.int z3, .int x9] rfl rfl ?_
      refine z_xI zt216 1 rfl rfl (fun (x13 : Int32) (h14 : x13 = x9 &&& z3) => ?_) (rfl)
      refine z_xP zt216 2 4 [some (.int x9), some (.int z3), some (.int z4)] [.int z3, .int x13] rfl rfl ?_
      have h15 := z_b32 x13
      have h16 := z_b32 z3
      refine z_xJ zt216 3 rfl rfl (fun (h17 : x13.toInt ≠ z3.toInt) => ?_) (fun (h17 : x13.toInt = z3.toInt) => ?_)
      · skip
        refine z_xP zt216 8 18 [some (.int x9), some (.int z3), some (.int z4)] [.int 0] rfl rfl ?_
        refine z_xrz zt216 9 rfl zzr216 (by decide) (by decide) ?_
        show z_ev (d + 3) 273 217 [some (.ref 19), some (.int p1), some (.int p2), some (.int p3), some (.int b4), some (.int b5), some (.int b6), some (.int b7), o8, o9] [.int 0] M _
        refine z_xZ zt273 92 rfl rfl (fun (h18 : (0 : Int) = 0) => ?_) (fun (h18 : (0 : Int) ≠ 0) => absurd h18 (by omega))
        refine z_xP zt273 94 225 [some (.ref 19), some (.int p1), some (.int p2), some (.int p3), some (.int b4), some (.int b5), some (.int b6), some (.int b7), o8, o9] [.int 0] rfl rfl ?_
        refine z_xP zt273 95 227 [some (.ref 19), some (.int p1), some (.int p2), some (.int p3), some (.int b4), some (.int b5), some (.int 0), some (.int b7), o8, o9] [] rfl rfl ?_
        refine z_xN zt273 96 rfl rfl (fun (x19 : Int32) (h20 : x19.toInt = b7.toInt + 1) => ?_) (z_pAdd rfl rfl (by omega) (by omega))
        show z_ev (d + 3) 273 230 [some (.ref 19), some (.int p1), some (.int p2), some (.int p3), some (.int b4), some (.int b5), some (.int 0), some (.int x19), o8, o9] [] M _
        refine z_xP zt273 97 185 [some (.ref 19), some (.int p1), some (.int p2), some (.int p3), some (.int b4), some (.int b5), some (.int 0), some (.int x19), o8, o9] [] rfl rfl ?_
        have q0 : ((0 : Int32)).toInt = 0 := rfl
        have i21 : x19.toInt.toNat = b7.toInt.toNat + 1 := by omega
        have q0 : ((0 : Int32)).toInt = 0 := rfl
        exact ih.2.2.2.2.1 M b4 b5 (0) x19 (o8) (o9) z0 z1 z2 z3 z4 eg X ⟨by omega, by omega⟩ ⟨by omega, by omega⟩ (by decide) ⟨by omega, by omega⟩ hp0 ⟨by omega, by omega⟩ hp1 ⟨by omega, by omega⟩ hp2 ⟨by omega, by omega⟩ hp3 hp4 (by omega) (by omega) (by omega) (by omega) hn (by omega) hL hM hO hY (by rw [i21]; exact z_cnN hC (by omega) h10 (fun hh => absurd hh.1 (by rw [← h14]; omega)) (by omega)) (by omega)
      refine z_xP zt216 4 9 [some (.int x9), some (.int z3), some (.int z4)] [.int z4, .int x9] rfl rfl ?_
      refine z_xI zt216 5 rfl rfl (fun (x22 : Int32) (h23 : x22 = x9 &&& z4) => ?_) (rfl)
      refine z_xZ zt216 6 rfl rfl (fun (h24 : x22.toInt ≠ 0) => ?_) (fun (h24 : x22.toInt = 0) => ?_)
      · skip
        refine z_xP zt216 8 18 [some (.int x9), some (.int z3), some (.int z4)] [.int 0] rfl rfl ?_
        refine z_xrz zt216 9 rfl zzr216 (by decide) (by decide) ?_
        show z_ev (d + 3) 273 217 [some (.ref 19), some (.int p1), some (.int p2), some (.int p3), some (.int b4), some (.int b5), some (.int b6), some (.int b7), o8, o9] [.int 0] M _
        refine z_xZ zt273 92 rfl rfl (fun (h25 : (0 : Int) = 0) => ?_) (fun (h25 : (0 : Int) ≠ 0) => absurd h25 (by omega))
        refine z_xP zt273 94 225 [some (.ref 19), some (.int p1), some (.int p2), some (.int p3), some (.int b4), some (.int b5), some (.int b6), some (.int b7), o8, o9] [.int 0] rfl rfl ?_
        refine z_xP zt273 95 227 [some (.ref 19), some (.int p1), some (.int p2), some (.int p3), some (.int b4), some (.int b5), some (.int 0), some (.int b7), o8, o9] [] rfl rfl ?_
        refine z_xN zt273 96 rfl rfl (fun (x26 : Int32) (h27 : x26.toInt = b7.toInt + 1) => ?_) (z_pAdd rfl rfl (by omega) (by omega))
        show z_ev (d + 3) 273 230 [some (.ref 19), some (.int p1), some (.int p2), some (.int p3), some (.int b4), some (.int b5), some (.int 0), some (.int x26), o8, o9] [] M _
        refine z_xP zt273 97 185 [some (.ref 19), some (.int p1), some (.int p2), some (.int p3), some (.int b4), some (.int b5), some (.int 0), some (.int x26), o8, o9] [] rfl rfl ?_
        have q0 : ((0 : Int32)).toInt = 0 := rfl
        have i28 : x26.toInt.toNat = b7.toInt.toNat + 1 := by omega
        have q0 : ((0 : Int32)).toInt = 0 := rfl
        exact ih.2.2.2.2.1 M b4 b5 (0) x26 (o8) (o9) z0 z1 z2 z3 z4 eg X ⟨by omega, by omega⟩ ⟨by omega, by omega⟩ (by decide) ⟨by omega, by omega⟩ hp0 ⟨by omega, by omega⟩ hp1 ⟨by omega, by omega⟩ hp2 ⟨by omega, by omega⟩ hp3 hp4 (by omega) (by omega) (by omega) (by omega) hn (by omega) hL hM hO hY (by rw [i28]; exact z_cnN hC (by omega) h10 (fun hh => absurd hh.2 (by rw [← h23]; omega)) (by omega)) (by omega)
      refine z_xP zt216 7 18 [some (.int x9), some (.int z3), some (.int z4)] [.int 1] rfl rfl ?_
      refine z_xrz zt216 9 rfl zzr216 (by decide) (by decide) ?_
      show z_ev (d + 3) 273 217 [some (.ref 19), some (.int p1), some (.int p2), some (.int p3), some (.int b4), some (.int b5), some (.int b6), some (.int b7), o8, o9] [.int 1] M _
      refine z_xZ zt273 92 rfl rfl (fun (h29 : (1 : Int) = 0) => absurd h29 (by omega)) (fun (h29 : (1 : Int) ≠ 0) => ?_)
      refine z_xP zt273 93 225 [some (.ref 19), some (.int p1), some (.int p2), some (.int p3), some (.int b4), some (.int b5), some (.int b6), some (.int b7), o8, o9] [.int 1] rfl rfl ?_
      refine z_xP zt273 95 227 [some (.ref 19), some (.int p1), some (.int p2), some (.int p3), some (.int b4), some (.int b5), some (.int 1), some (.int b7), o8, o9] [] rfl rfl ?_
      refine z_xN zt273 96 rfl rfl (fun (x30 : Int32) (h31 : x30.toInt = b7.toInt + 1) => ?_) (z_pAdd rfl rfl (by omega) (by omega))
      show z_ev (d + 3) 273 230 [some (.ref 19), some (.int p1), some (.int p2), some (.int p3), some (.int b4), some (.int b5), some (.int 1), some (.int x30), o8, o9] [] M _
      refine z_xP zt273 97 185 [some (.ref 19), some (.int p1), some (.int p2), some (.int p3), some (.int b4), some (.int b5), some (.int 1), some (.int x30), o8, o9] [] rfl rfl ?_
      have q1 : ((1 : Int32)).toInt = 1 := rfl
      have i32 : x30.toInt.toNat = b7.toInt.toNat + 1 := by omega
      have q1 : ((1 : Int32)).toInt = 1 := rfl
      exact ih.2.2.2.2.1 M b4 b5 (1) x30 (o8) (o9) z0 z1 z2 z3 z4 eg X ⟨by omega, by omega⟩ ⟨by omega, by omega⟩ (by decide) ⟨by omega, by omega⟩ hp0 ⟨by omega, by omega⟩ hp1 ⟨by omega, by omega⟩ hp2 ⟨by omega, by omega⟩ hp3 hp4 (by omega) (by omega) (by omega) (by omega) hn (by omega) hL hM hO hY (by rw [i32]; exact z_cnY h10 ⟨by rw [← h14]; omega, by rw [← h23]; omega⟩ (by omega)) (by omega)
    · skip
      intro M b4 b5 b6 b7 o8 o9 z0 z1 z2 eg X hh0 hh1 hh2 hh3 hp0 hh5 hp1 hh7 hp2 hh9 hh10 hh11 hh12 hh13 hn hE hL hM hO hD hJ hE
      have hmx := z_mxf z0.toInt
      have hV := z_V5 hn (by omega) (by omega) (by omega)
      refine z_xP zt273 101 244 [some (.ref 19), some (.int p1), some (.int p2), some (.int p3), some (.int b4), some (.int b5), some (.int b6), some (.int b7), o8, o9] [.int b7] rfl rfl ?_
      refine z_xZ zt273 102 rfl rfl (fun (h1 : b7.toInt < 0) => ?_) (fun (h1 : 0 ≤ b7.toInt) => ?_)
      · skip
        refine z_xP zt273 114 271 [some (.ref 19), some (.int p1), some (.int p2), some (.int p3), some (.int b4), some (.int b5), some (.int b6), some (.int b7), o8, o9] [.int b7] rfl rfl ?_
        refine z_xZ zt273 115 rfl rfl (fun (h2 : b7.toInt < 0) => ?_) (fun (h2 : 0 ≤ b7.toInt) => absurd h2 (by omega))
        refine z_xP zt273 117 279 [some (.ref 19), some (.int p1), some (.int p2), some (.int p3), some (.int b4), some (.int b5), some (.int b6), some (.int b7), o8, o9] [.int 0] rfl rfl ?_
        refine z_xP zt273 118 283 [some (.ref 19), some (.int p1), some (.int p2), some (.int p3), some (.int b4), some (.int 0), some (.int b6), some (.int b7), o8, o9] [.int 0] rfl rfl ?_
        refine z_xZ zt273 119 rfl rfl (fun (h3 : (0 : Int) = 0) => ?_) (fun (h3 : (0 : Int) ≠ 0) => absurd h3 (by omega))
        refine z_xP zt273 127 299 [some (.ref 19), some (.int p1), some (.int p2), some (.int p3), some (.int b4), some (.int 0), some (.int b6), some (.int b7), o8, o9] [.int 0] rfl rfl ?_
        refine z_xP zt273 128 305 [some (.ref 19), some (.int p1), some (.int p2), some (.int p3), some (.int b4), some (.int 0), some (.int b6), some (.int b7), some (.int 0), some (.int b7)] [] rfl rfl ?_
        have f19 : T[19]? = some (.inl (12, 0, 0, 0, 0)) := X.1.k rfl (by decide)
        have q0 : ((0 : Int32)).toInt = 0 := rfl
        have q0 : ((0 : Int32)).toInt = 0 := rfl
        exact ih.2.2.2.2.2.2 M b4 (0) b6 b7 (0) b7 z0 z1 z2 eg X ⟨by omega, by omega⟩ (by decide) ⟨by omega, by omega⟩ ⟨by omega, by omega⟩ (by decide) ⟨by omega, by omega⟩ hp0 ⟨by omega, by omega⟩ hp1 ⟨by omega, by omega⟩ hp2 ⟨by omega, by omega⟩ (by omega) (by omega) (by omega) (by omega) (by omega) (by omega) (z_MX0 (by omega) hn (by omega) (by omega) (fun h6 => absurd h6 (by omega))) hL hM (z_mX0 hO hD hJ (by omega) rfl (by omega)) (by omega)
      refine z_xP zt273 103 248 [some (.ref 19), some (.int p1), some (.int p2), some (.int p3), some (.int b4), some (.int b5), some (.int b6), some (.int b7), o8, o9] [.ref 19] rfl rfl ?_
      have f19 : T[19]? = some (.inl (12, 0, 0, 0, 0)) := X.1.k rfl (by decide)
      refine z_xgX (b := 43) zt273 104 rfl zo273 zzf12_79 X f19 (by decide) (by decide) rfl ?_
      refine z_xP zt273 105 253 [some (.ref 19), some (.int p1), some (.int p2), some (.int p3), some (.int b4), some (.int b5), some (.int b6), some (.int b7), o8, o9] [.int b7, .ref 43] rfl rfl ?_
      have f43 : T[43]? = some (.inr (43, 0, 9, 0, 1023)) := X.1.k rfl (by decide)
      refine z_xil zt273 106 rfl X f43 (by decide) (by omega) (by omega) (fun (x4 : Int32) h5 (h6 : 0 ≤ x4.toInt) (h7 : x4.toInt ≤ 1023) => ?_)
      have h8 := z_NBl hn h5 (by omega) (by omega)
      refine z_xP zt273 107 255 [some (.ref 19), some (.int p1), some (.int p2), some (.int p3), some (.int b4), some (.int b5), some (.int b6), some (.int b7), o8, o9] [.ref 19, .int x4] rfl rfl ?_
      refine z_xgv zt273 108 rfl zo273 zzf12_365 X f19 (by decide) hp0 ?_
      refine z_xP zt273 109 259 [some (.ref 19), some (.int p1), some (.int p2), some (.int p3), some (.int b4), some (.int b5), some (.int b6), some (.int b7), o8, o9] [.int 1, .int z0, .int x4] rfl rfl ?_
      refine z_xI zt273 110 rfl rfl (fun (x9 : Int32) (h10 : x9.toInt = z0.toInt - 1) => ?_) (z_pSub rfl rfl (by omega) (by omega))
      refine z_xJ zt273 111 rfl rfl (fun (h11 : x4.toInt ≠ x9.toInt) => ?_) (fun (h11 : x4.toInt = x9.toInt) => ?_)
      · skip
        refine z_xP zt273 114 271 [some (.ref 19), some (.int p1), some (.int p2), some (.int p3), some (.int b4), some (.int b5), some (.int b6), some (.int b7), o8, o9] [.int b7] rfl rfl ?_
        refine z_xZ zt273 115 rfl rfl (fun (h12 : b7.toInt < 0) => absurd h12 (by omega)) (fun (h12 : 0 ≤ b7.toInt) => ?_)
        refine z_xP zt273 116 279 [some (.ref 19), some (.int p1), some (.int p2), some (.int p3), some (.int b4), some (.int b5), some (.int b6), some (.int b7), o8, o9] [.int 1] rfl rfl ?_
        refine z_xP zt273 118 283 [some (.ref 19), some (.int p1), some (.int p2), some (.int p3), some (.int b4), some (.int 1), some (.int b6), some (.int b7), o8, o9] [.int 1] rfl rfl ?_
        refine z_xZ zt273 119 rfl rfl (fun (h13 : (1 : Int) = 0) => absurd h13 (by omega)) (fun (h13 : (1 : Int) ≠ 0) => ?_)
        refine z_xP zt273 120 287 [some (.ref 19), some (.int p1), some (.int p2), some (.int p3), some (.int b4), some (.int 1), some (.int b6), some (.int b7), o8, o9] [.ref 19] rfl rfl ?_
        refine z_xgX (b := 43) zt273 121 rfl zo273 zzf12_79 X f19 (by decide) (by decide) rfl ?_
        refine z_xP zt273 122 292 [some (.ref 19), some (.int p1), some (.int p2), some (.int p3), some (.int b4), some (.int 1), some (.int b6), some (.int b7), o8, o9] [.int b7, .ref 43] rfl rfl ?_
        refine z_xil zt273 123 rfl X f43 (by decide) (by omega) (by omega) (fun (x14 : Int32) h15 (h16 : 0 ≤ x14.toInt) (h17 : x14.toInt ≤ 1023) => ?_)
        have h18 := congrArg Int32.toInt (h15.symm.trans h5)
        have h19 := z_NBl hn h15 (by omega) (by omega)
        refine z_xP zt273 124 294 [some (.ref 19), some (.int p1), some (.int p2), some (.int p3), some (.int b4), some (.int 1), some (.int b6), some (.int b7), o8, o9] [.int 1, .int x14] rfl rfl ?_
        refine z_xI zt273 125 rfl rfl (fun (x20 : Int32) (h21 : x20.toInt = x14.toInt + 1) => ?_) (z_pAdd rfl rfl (by omega) (by omega))
        refine z_xP zt273 126 299 [some (.ref 19), some (.int p1), some (.int p2), some (.int p3), some (.int b4), some (.int 1), some (.int b6), some (.int b7), o8, o9] [.int x20] rfl rfl ?_
        refine z_xP zt273 128 305 [some (.ref 19), some (.int p1), some (.int p2), some (.int p3), some (.int b4), some (.int 1), some (.int b6), some (.int b7), some (.int x20), some (.int b7)] [] rfl rfl ?_
        have q1 : ((1 : Int32)).toInt = 1 := rfl
        have q1 : ((1 : Int32)).toInt = 1 := rfl
        exact ih.2.2.2.2.2.2 M b4 (1) b6 b7 x20 b7 z0 z1 z2 eg X ⟨by omega, by omega⟩ (by decide) ⟨by omega, by omega⟩ ⟨by omega, by omega⟩ ⟨by omega, by omega⟩ ⟨by omega, by omega⟩ hp0 ⟨by omega, by omega⟩ hp1 ⟨by omega, by omega⟩ hp2 ⟨by omega, by omega⟩ (by omega) (by omega) (by omega) (by omega) (by omega) (by omega) (z_MX0 (by omega) hn (by omega) (by omega) (fun _ => z_hvA h5 (by omega) (by omega))) hL hM (z_mX1 hO (fun i hi => (hn i (by omega)).1) hD hJ (by omega) rfl (by omega) (by omega) h15 (by omega) (by omega) (by omega)) (by omega)
      refine z_xN zt273 112 rfl rfl (fun (x22 : Int32) (h23 : x22.toInt = b7.toInt + (-1)) => ?_) (z_pAdd rfl rfl (by omega) (by omega))
      show z_ev (d + 3) 273 266 [some (.ref 19), some (.int p1), some (.int p2), some (.int p3), some (.int b4), some (.int b5), some (.int b6), some (.int x22), o8, o9] [] M _
      refine z_xP zt273 113 242 [some (.ref 19), some (.int p1), some (.int p2), some (.int p3), some (.int b4), some (.int b5), some (.int b6), some (.int x22), o8, o9] [] rfl rfl ?_
      exact ih.2.2.2.2.2.1 M b4 b5 b6 x22 (o8) (o9) z0 z1 z2 eg X ⟨by omega, by omega⟩ ⟨by omega, by omega⟩ ⟨by omega, by omega⟩ ⟨by omega, by omega⟩ hp0 ⟨by omega, by omega⟩ hp1 ⟨by omega, by omega⟩ hp2 ⟨by omega, by omega⟩ (by omega) (by omega) (by omega) (by omega) hn (by omega) hL hM hO hD (z_mJS hJ (by omega) h5 (by omega) (by omega)) (by omega)
    · skip
      intro M b4 b5 b6 b7 b8 b9 z0 z1 z2 eg X hh0 hh1 hh2 hh3 hh4 hh5 hp0 hh7 hp1 hh9 hp2 hh11 hh12 hh13 hh14 hh15 hh16 hh17 hx hL hM hX hE
      have hmx := z_mxf z0.toInt
      have hV := z_MXb hx (by omega) (by omega) (by omega)
      refine z_xP zt273 129 308 [some (.ref 19), some (.int p1), some (.int p2), some (.int p3), some (.int b4), some (.int b5), some (.int b6), some (.int b7), some (.int b8), some (.int b9)] [.int p2, .int b9] rfl rfl ?_
      refine z_xJ zt273 130 rfl rfl (fun (h1 : p2.toInt ≤ b9.toInt) => ?_) (fun (h1 : b9.toInt < p2.toInt) => ?_)
      · skip
        refine z_xP zt273 139 118 [some (.ref 19), some (.int p1), some (.int p2), some (.int p3), some (.int b4), some (.int b5), some (.int b6), some (.int b7), some (.int b8), some (.int b9)] [] rfl rfl ?_
        have f19 : T[19]? = some (.inl (12, 0, 0, 0, 0)) := X.1.k rfl (by decide)
        have h2 := z_MXe hx (by omega) (by omega) (by omega) (by omega)
        exact ih.2.2.1 M b4 b5 (some (.int b6)) (some (.int b7)) (some (.int b8)) (some (.int b9)) z0 z1 z2 X ⟨by omega, by omega⟩ ⟨by omega, by omega⟩ hp0 ⟨by omega, by omega⟩ hp1 ⟨by omega, by omega⟩ hp2 ⟨by omega, by omega⟩ (by omega) (by omega) h2.1 h2.2.1 hL hM (z_mXE (n2 := p2.toInt) hX (by omega) (by omega)) (by omega)
      refine z_xP zt273 131 313 [some (.ref 19), some (.int p1), some (.int p2), some (.int p3), some (.int b4), some (.int b5), some (.int b6), some (.int b7), some (.int b8), some (.int b9)] [.int b5] rfl rfl ?_
      refine z_xZ zt273 132 rfl rfl (fun (h3 : b5.toInt = 0) => ?_) (fun (h3 : b5.toInt ≠ 0) => ?_)
      · skip
        refine z_xP zt273 139 118 [some (.ref 19), some (.int p1), some (.int p2), some (.int p3), some (.int b4), some (.int b5), some (.int b6), some (.int b7), some (.int b8), some (.int b9)] [] rfl rfl ?_
        have f19 : T[19]? = some (.inl (12, 0, 0, 0, 0)) := X.1.k rfl (by decide)
        have h4 := z_MXe hx (by omega) (by omega) (by omega) (by omega)
        exact ih.2.2.1 M b4 b5 (some (.int b6)) (some (.int b7)) (some (.int b8)) (some (.int b9)) z0 z1 z2 X ⟨by omega, by omega⟩ ⟨by omega, by omega⟩ hp0 ⟨by omega, by omega⟩ hp1 ⟨by omega, by omega⟩ hp2 ⟨by omega, by omega⟩ (by omega) (by omega) h4.1 h4.2.1 hL hM (z_mXE (n2 := p2.toInt) hX (by omega) (by omega)) (by omega)
      refine z_xP zt273 133 317 [some (.ref 19), some (.int p1), some (.int p2), some (.int p3), some (.int b4), some (.int b5), some (.int b6), some (.int b7), some (.int b8), some (.int b9)] [.ref 19] rfl rfl ?_
      have f19 : T[19]? = some (.inl (12, 0, 0, 0, 0)) := X.1.k rfl (by decide)
      refine z_xgX (b := 43) zt273 134 rfl zo273 zzf12_79 X f19 (by decide) (by decide) rfl ?_
      refine z_xP zt273 135 324 [some (.ref 19), some (.int p1), some (.int p2), some (.int p3), some (.int b4), some (.int b5), some (.int b6), some (.int b7), some (.int b8), some (.int b9)] [.int b8, .int b9, .ref 43] rfl rfl ?_
      have f43 : T[43]? = some (.inr (43, 0, 9, 0, 1023)) := X.1.k rfl (by decide)
      refine z_xis zt273 136 rfl X f43 (by decide) (by decide) (by omega) (by omega) (by omega) (by omega) (by decide) (fun M5 X6 e7 h8 => ?_)
      refine z_xN zt273 137 rfl rfl (fun (x9 : Int32) (h10 : x9.toInt = b9.toInt + 1) => ?_) (z_pAdd rfl rfl (by omega) (by omega))
      show z_ev (d + 3) 273 328 [some (.ref 19), some (.int p1), some (.int p2), some (.int p3), some (.int b4), some (.int b5), some (.int b6), some (.int b7), some (.int b8), some (.int x9)] [] M5 _
      refine z_xP zt273 138 305 [some (.ref 19), some (.int p1), some (.int p2), some (.int p3), some (.int b4), some (.int b5), some (.int b6), some (.int b7), some (.int b8), some (.int x9)] [] rfl rfl ?_
      have h11 := (e7.f f19 (by decide) hp0)
      have h12 := (e7.f f19 (by decide) hp1)
      have h13 := (e7.f f19 (by decide) hp2)
      have f47 : T[47]? = some (.inr (47, 0, 12, (-2147483648), 2147483647)) := X6.1.k rfl (by decide)
      exact ih.2.2.2.2.2.2 M5 b4 b5 b6 b7 b8 x9 z0 z1 z2 eg X6 ⟨by omega, by omega⟩ ⟨by omega, by omega⟩ ⟨by omega, by omega⟩ ⟨by omega, by omega⟩ ⟨by omega, by omega⟩ ⟨by omega, by omega⟩ h11 ⟨by omega, by omega⟩ h12 ⟨by omega, by omega⟩ h13 ⟨by omega, by omega⟩ (by omega) (by omega) (by omega) (by omega) (by omega) (by omega) (z_MXs hx (by omega) h8 rfl (by omega) (by omega) (by omega) (by omega) (by omega) (by omega) (by omega)) (by rw [show z_Ar M5 47 = z_Ar M 47 from ((e7.a f47 (by decide)).trans rfl)]; exact hL) hM (z_mXS hX h8 rfl (by omega) (by omega) (by omega) (by omega)) (by omega)
theorem zUC273 {T : List zK} {d : Nat} {K : Option Value → zH → Prop} {p1 : Int32} {p2 : Int32} {p3 : Int32} {q t m pr en : Nat} {B : Nat → Nat} {M0 : zH} (hW : z_W M0 T) (u1 : 0 ≤ p1.toInt ∧ p1.toInt ≤ 7) (u2 : 1 ≤ p2.toInt ∧ p2.toInt ≤ 5) (u3 : 0 ≤ p3.toInt ∧ p3.toInt ≤ 255) (hYS : z_YS M0 p1.toNatClampNeg q t m pr en B) (kk : ∀ (x : Int32) (M1 : zH), z_X T zw273 M0 M1 → 0 ≤ x.toInt → x.toInt ≤ 1 → (x.toInt = 1 ∧ z_sfe B t q p2.toInt.toNat p3.toInt.toNat) ∨ (x.toInt = 0 ∧ ¬ z_sfe B t q p2.toInt.toNat p3.toInt.toNat) → K (some (.int x)) M1) : z_ev (d + 3) 273 0 [some (.ref 19), some (.int p1), some (.int p2), some (.int p3), none, none, none, none, none, none] [] M0 K := by
  have X : z_X T zw273 M0 M0 := .refl hW
  refine z_xP zt273 0 2 [some (.ref 19), some (.int p1), some (.int p2), some (.int p3), none, none, none, none, none, none] [.int 0, .ref 19] rfl rfl ?_
  have f19 : T[19]? = some (.inl (12, 0, 0, 0, 0)) := X.1.k rfl (by decide)
  have q0 : ((0 : Int32)).toInt = 0 := rfl
  refine z_xpf zt273 1 rfl zo273 zzf12_365 X f19 (by decide) (by decide) ⟨by omega, by omega⟩ rfl (by decide) zw12_43 (fun M1 X2 e3 h4 => ?_)
  refine z_xP zt273 2 8 [some (.ref 19), some (.int p1), some (.int p2), some (.int p3), some (.int 0), none, none, none, none, none] [] rfl rfl ?_
  have q0 : ((0 : Int32)).toInt = 0 := rfl
  have q0 : ((0 : Int32)).toInt = 0 := rfl
  exact (zUB273 u1 u2 u3 hYS kk 617833216).1 M1 (0) (0) X2 (by decide) h4 (by decide) (fun s hs => absurd hs (by show ¬ s < 0; omega)) rfl (by have := Nat.two_pow_pos q; generalize (2 : Nat) ^ q = P at *; omega) (by omega)
theorem zUB272 {T : List zK} {d : Nat} {K : Option Value → zH → Prop} {p1 : Int32} {p2 : Int32} {p3 : Int32} {q t m pr en : Nat} {B : Nat → Nat} {M0 : zH} (hYA : ∀ A : Int32, z_F M0 19 13 = some (.int A) → 0 ≤ p1.toInt → p1.toInt < A.toInt → z_YS M0 p1.toNatClampNeg q t m pr en B) (kk : ∀ (x : Int32) (M1 : zH), z_X T zw272 M0 M1 → y_qA M0 p1 x.toInt ((x.toInt = -1 ∧ ¬ (1 ≤ p2.toInt ∧ p2.toInt ≤ 5 ∧ 0 ≤ p3.toInt ∧ p3.toInt ≤ 2)) ∨ ((1 ≤ p2.toInt ∧ p2.toInt ≤ 5 ∧ 0 ≤ p3.toInt ∧ p3.toInt ≤ 2) ∧ z_mda (z_sfe B t q p2.toInt.toNat) (2 ^ t) p3.toInt x.toInt)) → K (some (.int x)) M1) : ∀ n : Nat, (∀ (M : zH) (b4 : Int32) (b5 : Int32) (b6 : Int32) (o7 : Option Value), z_X T zw272 M0 M → 0 ≤ p1.toInt ∧ p1.toInt ≤ 7 → 1 ≤ p2.toInt ∧ p2.toInt ≤ 5 → 0 ≤ p3.toInt ∧ p3.toInt ≤ 2 → (-1) ≤ b4.toInt ∧ b4.toInt ≤ 255 → 0 ≤ b5.toInt ∧ b5.toInt ≤ 359 → 0 ≤ b6.toInt ∧ b6.toInt ≤ 256 → 0 ≤ b5.toInt → b5.toInt ≤ b6.toInt → z_YS M0 p1.toNatClampNeg q t m pr en B → y_mnI (z_sfe B t q p2.toInt.toNat) b6.toInt.toNat b4.toInt b5.toInt → b6.toInt ≤ ((2 ^ t : Nat) : Int) → (∃ A : Int32, z_F M0 19 13 = some (.int A) ∧ 0 ≤ p1.toInt ∧ p1.toInt < A.toInt) → ((0) * 2 + 0) * 257 + (256 - b6.toInt) < (n : Int) → z_ev (d + 4) 272 43 [some (.ref 19), some (.int p1), some (.int p2), some (.int p3), some (.int b4), some (.int b5), some (.int b6), o7] [] M K) := by
  intro n
  induction n with
  | zero => exact by intros; exfalso; omega
  | succ n ih =>
    intro M b4 b5 b6 o7 X hh0 hh1 hh2 hh3 hh4 hh5 hh6 hh7 hYS hI hE2 hQ hE
    refine z_xP zt272 18 47 [some (.ref 19), some (.int p1), some (.int p2), some (.int p3), some (.int b4), some (.int b5), some (.int b6), o7] [.ref 19, .int 1, .int b6] rfl rfl ?_
    have f19 : T[19]? = some (.inl (12, 0, 0, 0, 0)) := X.1.k rfl (by decide)
    refine z_xgX (b := 25) zt272 19 rfl zo272 zzf12_25 X f19 (by decide) (by decide) rfl ?_
    refine z_xP zt272 20 51 [some (.ref 19), some (.int p1), some (.int p2), some (.int p3), some (.int b4), some (.int b5), some (.int b6), o7] [.int p1, .ref 25, .int 1, .int b6] rfl rfl ?_
    have f25 : T[25]? = some (.inr (25, 0, 8, 0, 8)) := X.1.k rfl (by decide)
    refine z_xil zt272 21 rfl X f25 (by decide) (by omega) (by omega) (fun (x1 : Int32) h2 (h3 : 0 ≤ x1.toInt) (h4 : x1.toInt ≤ 8) => ?_)
    refine z_xI zt272 22 rfl rfl (fun (x5 : Int32) (h6 : x5 = (1 : Int32) <<< (x1 &&& 31) ∧ 1 ≤ x5.toInt ∧ x5.toInt ≤ 256) => ?_) (⟨rfl, z_pShlB (a := 1) (b := 8) (c := 256) (r := 256) rfl rfl (by omega) (by omega) (by omega) (by omega) (by decide) (by decide) (by decide) (by decide)⟩)
    refine z_xJ zt272 23 rfl rfl (fun (h7 : x5.toInt ≤ b6.toInt) => ?_) (fun (h7 : b6.toInt < x5.toInt) => ?_)
    · skip
      refine z_xP zt272 61 160 [some (.ref 19), some (.int p1), some (.int p2), some (.int p3), some (.int b4), some (.int b5), some (.int b6), o7] [.int b4] rfl rfl ?_
      refine z_xZ zt272 62 rfl rfl (fun (h8 : 0 ≤ b4.toInt) => ?_) (fun (h8 : b4.toInt < 0) => ?_)
      · skip
        refine z_xP zt272 64 169 [some (.ref 19), some (.int p1), some (.int p2), some (.int p3), some (.int b4), some (.int b5), some (.int b6), o7] [.int p3] rfl rfl ?_
        refine z_xZ zt272 65 rfl rfl (fun (h9 : p3.toInt ≠ 0) => ?_) (fun (h9 : p3.toInt = 0) => ?_)
        · skip
          refine z_xP zt272 69 182 [some (.ref 19), some (.int p1), some (.int p2), some (.int p3), some (.int b4), some (.int b5), some (.int b6), o7] [.int 1, .int p3] rfl rfl ?_
          refine z_xJ zt272 70 rfl rfl (fun (h10 : p3.toInt ≠ 1) => ?_) (fun (h10 : p3.toInt = 1) => ?_)
          · skip
            refine z_xP zt272 72 192 [some (.ref 19), some (.int p1), some (.int p2), some (.int p3), some (.int b4), some (.int b5), some (.int b6), o7] [.int b5] rfl rfl ?_
            obtain ⟨A11, hQ1, hQ2⟩ := hQ
            have eq12 := (congrArg Int32.toInt ((congrFun (X.2.a f25 (by decide)) _).symm.trans h2)).symm.trans hYS.1.2.1
            have i13 := z_2q1 (x := x1) (by omega) (by omega) h6.1
            rw [show x1.toInt.toNat = t from by omega] at i13
            have he14 : b6.toInt.toNat = 2 ^ t := by clear hI; generalize (2 : Nat) ^ t = P at *; omega
            exact z_xri zt272 73 rfl zzr272 (kk b5 M X (y_qA1 hQ1 hQ2 (Or.inr ⟨⟨by omega, by omega, by omega, by omega⟩, y_mnI3 hI he14 (by omega) (by omega)⟩)))
          refine z_xP zt272 71 192 [some (.ref 19), some (.int p1), some (.int p2), some (.int p3), some (.int b4), some (.int b5), some (.int b6), o7] [.int b4] rfl rfl ?_
          obtain ⟨A15, hQ1, hQ2⟩ := hQ
          have eq16 := (congrArg Int32.toInt ((congrFun (X.2.a f25 (by decide)) _).symm.trans h2)).symm.trans hYS.1.2.1
          have i17 := z_2q1 (x := x1) (by omega) (by omega) h6.1
          rw [show x1.toInt.toNat = t from by omega] at i17
          have he18 : b6.toInt.toNat = 2 ^ t := by clear hI; generalize (2 : Nat) ^ t = P at *; omega
          exact z_xri zt272 73 rfl zzr272 (kk b4 M X (y_qA1 hQ1 hQ2 (Or.inr ⟨⟨by omega, by omega, by omega, by omega⟩, y_mnI3 hI he18 (by omega) (by omega)⟩)))
        refine z_xP zt272 66 174 [some (.ref 19), some (.int p1), some (.int p2), some (.int p3), some (.int b4), some (.int b5), some (.int b6), o7] [.int b4] rfl rfl ?_
        refine z_xcS (vs := [.int b4]) (r := []) (L2 := [some (.int b4), none, none]) zt272 67 rfl zo272 zzcS12_193 (Or.inl rfl) (Nat.le_of_ble_eq_true rfl) rfl rfl (Nat.le_of_ble_eq_true rfl) zzm207 (Nat.le_of_ble_eq_true rfl) rfl ?_
        refine zUC207 X.1 (by omega) (fun x22 M19 X20 h21 => ?_)
        have X23 := X.go X20 (z_sb (by decide))
        show z_ev (d + 4) 272 177 [some (.ref 19), some (.int p1), some (.int p2), some (.int p3), some (.int b4), some (.int b5), some (.int b6), o7] [.int x22] M19 _
        refine z_xP zt272 68 192 [some (.ref 19), some (.int p1), some (.int p2), some (.int p3), some (.int b4), some (.int b5), some (.int b6), o7] [.int x22] rfl rfl ?_
        obtain ⟨A25, hQ1, hQ2⟩ := hQ
        have eq26 := (congrArg Int32.toInt ((congrFun (X.2.a f25 (by decide)) _).symm.trans h2)).symm.trans hYS.1.2.1
        have i27 := z_2q1 (x := x1) (by omega) (by omega) h6.1
        rw [show x1.toInt.toNat = t from by omega] at i27
        have he28 : b6.toInt.toNat = 2 ^ t := by clear hI; generalize (2 : Nat) ^ t = P at *; omega
        exact z_xri zt272 73 rfl zzr272 (kk x22 M19 X23 (y_qA1 hQ1 hQ2 (Or.inr ⟨⟨by omega, by omega, by omega, by omega⟩, y_mnI3 hI he28 (by omega) (Or.inl ⟨by omega, h21⟩)⟩)))
      refine z_xP zt272 63 192 [some (.ref 19), some (.int p1), some (.int p2), some (.int p3), some (.int b4), some (.int b5), some (.int b6), o7] [.int (-2)] rfl rfl ?_
      have qm2 : (((-2) : Int32)).toInt = (-2) := rfl
      obtain ⟨A29, hQ1, hQ2⟩ := hQ
      have eq30 := (congrArg Int32.toInt ((congrFun (X.2.a f25 (by decide)) _).symm.trans h2)).symm.trans hYS.1.2.1
      have i31 := z_2q1 (x := x1) (by omega) (by omega) h6.1
      rw [show x1.toInt.toNat = t from by omega] at i31
      have he32 : b6.toInt.toNat = 2 ^ t := by clear hI; generalize (2 : Nat) ^ t = P at *; omega
      have qm2 : (((-2) : Int32)).toInt = (-2) := rfl
      exact z_xri zt272 73 rfl zzr272 (kk (-2) M X (y_qA1 hQ1 hQ2 (Or.inr ⟨⟨by omega, by omega, by omega, by omega⟩, y_mnI2 hI he32 (by omega) (by omega)⟩)))
    refine z_xP zt272 24 58 [some (.ref 19), some (.int p1), some (.int p2), some (.int p3), some (.int b4), some (.int b5), some (.int b6), o7] [.int b4] rfl rfl ?_
    refine z_xZ zt272 25 rfl rfl (fun (h33 : b4.toInt < 0) => ?_) (fun (h33 : 0 ≤ b4.toInt) => ?_)
    · skip
      refine z_xP zt272 31 79 [some (.ref 19), some (.int p1), some (.int p2), some (.int p3), some (.int b4), some (.int b5), some (.int b6), o7] [.int 1] rfl rfl ?_
      refine z_xP zt272 33 83 [some (.ref 19), some (.int p1), some (.int p2), some (.int p3), some (.int b4), some (.int b5), some (.int b6), some (.int 1)] [.int 1] rfl rfl ?_
      refine z_xZ zt272 34 rfl rfl (fun (h34 : (1 : Int) = 0) => absurd h34 (by omega)) (fun (h34 : (1 : Int) ≠ 0) => ?_)
      refine z_xP zt272 35 91 [some (.ref 19), some (.int p1), some (.int p2), some (.int p3), some (.int b4), some (.int b5), some (.int b6), some (.int 1)] [.int b6, .int p2, .int p1, .ref 19] rfl rfl ?_
      refine z_xcV (vs := [.ref 19, .int p1, .int p2, .int b6]) (r := []) (L2 := [some (.ref 19), some (.int p1), some (.int p2), some (.int b6), none, none, none, none, none, none]) zt272 36 rfl zo272 zzcV12_368 (Or.inl rfl) rfl X f19 rfl rfl rfl (Nat.le_of_ble_eq_true rfl) zzm273 (Nat.le_of_ble_eq_true rfl) rfl ?_
      refine zUC273 X.1 (by omega) (by omega) (by omega) (hYS.ke X.1 X.2 rfl) (fun x38 M35 X36 h39 h40 h37 => ?_)
      have X41 := X.go X36 (z_sb (by decide))
      show z_ev (d + 4) 272 94 [some (.ref 19), some (.int p1), some (.int p2), some (.int p3), some (.int b4), some (.int b5), some (.int b6), some (.int 1)] [.int x38] M35 _
      refine z_xZ zt272 37 rfl rfl (fun (h43 : x38.toInt = 0) => ?_) (fun (h43 : x38.toInt ≠ 0) => ?_)
      · skip
        refine z_xN zt272 59 rfl rfl (fun (x44 : Int32) (h45 : x44.toInt = b6.toInt + 1) => ?_) (z_pAdd rfl rfl (by omega) (by omega))
        show z_ev (d + 4) 272 155 [some (.ref 19), some (.int p1), some (.int p2), some (.int p3), some (.int b4), some (.int b5), some (.int x44), some (.int 1)] [] M35 _
        refine z_xP zt272 60 43 [some (.ref 19), some (.int p1), some (.int p2), some (.int p3), some (.int b4), some (.int b5), some (.int x44), some (.int 1)] [] rfl rfl ?_
        have i46 : x44.toInt.toNat = b6.toInt.toNat + 1 := by omega
        have eq47 := (congrArg Int32.toInt ((congrFun (X.2.a f25 (by decide)) _).symm.trans h2)).symm.trans hYS.1.2.1
        have i48 := z_2q1 (x := x1) (by omega) (by omega) h6.1
        rw [show x1.toInt.toNat = t from by omega] at i48
        have q1 : ((1 : Int32)).toInt = 1 := rfl
        exact ih M35 b4 b5 x44 (some (.int 1)) X41 ⟨by omega, by omega⟩ ⟨by omega, by omega⟩ ⟨by omega, by omega⟩ ⟨by omega, by omega⟩ ⟨by omega, by omega⟩ ⟨by omega, by omega⟩ (by omega) (by omega) hYS (by rw [i46]; exact y_mnIZ hI (z_sfn h37 (by omega))) (by omega) hQ (by omega)
      refine z_xP zt272 38 99 [some (.ref 19), some (.int p1), some (.int p2), some (.int p3), some (.int b4), some (.int b5), some (.int b6), some (.int 1)] [.int b4] rfl rfl ?_
      refine z_xZ zt272 39 rfl rfl (fun (h49 : b4.toInt < 0) => ?_) (fun (h49 : 0 ≤ b4.toInt) => absurd h49 (by omega))
      refine z_xP zt272 48 123 [some (.ref 19), some (.int p1), some (.int p2), some (.int p3), some (.int b4), some (.int b5), some (.int b6), some (.int 1)] [.int 1] rfl rfl ?_
      refine z_xP zt272 49 127 [some (.ref 19), some (.int p1), some (.int p2), some (.int p3), some (.int b4), some (.int 1), some (.int b6), some (.int 1)] [.int b4] rfl rfl ?_
      refine z_xZ zt272 50 rfl rfl (fun (h50 : b4.toInt < 0) => ?_) (fun (h50 : 0 ≤ b4.toInt) => absurd h50 (by omega))
      refine z_xP zt272 56 150 [some (.ref 19), some (.int p1), some (.int p2), some (.int p3), some (.int b4), some (.int 1), some (.int b6), some (.int 1)] [.int b6] rfl rfl ?_
      refine z_xP zt272 58 152 [some (.ref 19), some (.int p1), some (.int p2), some (.int p3), some (.int b6), some (.int 1), some (.int b6), some (.int 1)] [] rfl rfl ?_
      refine z_xN zt272 59 rfl rfl (fun (x51 : Int32) (h52 : x51.toInt = b6.toInt + 1) => ?_) (z_pAdd rfl rfl (by omega) (by omega))
      show z_ev (d + 4) 272 155 [some (.ref 19), some (.int p1), some (.int p2), some (.int p3), some (.int b6), some (.int 1), some (.int x51), some (.int 1)] [] M35 _
      refine z_xP zt272 60 43 [some (.ref 19), some (.int p1), some (.int p2), some (.int p3), some (.int b6), some (.int 1), some (.int x51), some (.int 1)] [] rfl rfl ?_
      have q1 : ((1 : Int32)).toInt = 1 := rfl
      have i53 : x51.toInt.toNat = b6.toInt.toNat + 1 := by omega
      have eq54 := (congrArg Int32.toInt ((congrFun (X.2.a f25 (by decide)) _).symm.trans h2)).symm.trans hYS.1.2.1
      have i55 := z_2q1 (x := x1) (by omega) (by omega) h6.1
      rw [show x1.toInt.toNat = t from by omega] at i55
      have q1 : ((1 : Int32)).toInt = 1 := rfl
      exact ih M35 b6 (1) x51 (some (.int 1)) X41 ⟨by omega, by omega⟩ ⟨by omega, by omega⟩ ⟨by omega, by omega⟩ ⟨by omega, by omega⟩ (by decide) ⟨by omega, by omega⟩ (by omega) (by omega) hYS (by rw [i53]; exact y_mnIN hI (by omega) (z_sfy h37 (by omega)) (by omega) (by omega)) (by omega) hQ (by omega)
    refine z_xP zt272 26 63 [some (.ref 19), some (.int p1), some (.int p2), some (.int p3), some (.int b4), some (.int b5), some (.int b6), o7] [.int b6] rfl rfl ?_
    refine z_xcS (vs := [.int b6]) (r := []) (L2 := [some (.int b6), none, none]) zt272 27 rfl zo272 zzcS12_193 (Or.inl rfl) (Nat.le_of_ble_eq_true rfl) rfl rfl (Nat.le_of_ble_eq_true rfl) zzm207 (Nat.le_of_ble_eq_true rfl) rfl ?_
    refine zUC207 X.1 (by omega) (fun x59 M56 X57 h58 => ?_)
    have X60 := X.go X57 (z_sb (by decide))
    show z_ev (d + 4) 272 66 [some (.ref 19), some (.int p1), some (.int p2), some (.int p3), some (.int b4), some (.int b5), some (.int b6), o7] [.int x59] M56 _
    refine z_xP zt272 28 68 [some (.ref 19), some (.int p1), some (.int p2), some (.int p3), some (.int b4), some (.int b5), some (.int b6), o7] [.int b4, .int x59] rfl rfl ?_
    refine z_xcS (vs := [.int b4]) (r := [.int x59]) (L2 := [some (.int b4), none, none]) zt272 29 rfl zo272 zzcS12_193 (Or.inl rfl) (Nat.le_of_ble_eq_true rfl) rfl rfl (Nat.le_of_ble_eq_true rfl) zzm207 (Nat.le_of_ble_eq_true rfl) rfl ?_
    refine zUC207 X60.1 (by omega) (fun x65 M62 X63 h64 => ?_)
    have X66 := X60.go X63 (z_sb (by decide))
    show z_ev (d + 4) 272 71 [some (.ref 19), some (.int p1), some (.int p2), some (.int p3), some (.int b4), some (.int b5), some (.int b6), o7] [.int x65, .int x59] M62 _
    have h68 := z_b32 x59
    have h69 := z_b32 x65
    refine z_xJ zt272 30 rfl rfl (fun (h70 : x65.toInt < x59.toInt) => ?_) (fun (h70 : x59.toInt ≤ x65.toInt) => ?_)
    · skip
      refine z_xP zt272 32 79 [some (.ref 19), some (.int p1), some (.int p2), some (.int p3), some (.int b4), some (.int b5), some (.int b6), o7] [.int 0] rfl rfl ?_
      refine z_xP zt272 33 83 [some (.ref 19), some (.int p1), some (.int p2), some (.int p3), some (.int b4), some (.int b5), some (.int b6), some (.int 0)] [.int 0] rfl rfl ?_
      refine z_xZ zt272 34 rfl rfl (fun (h71 : (0 : Int) = 0) => ?_) (fun (h71 : (0 : Int) ≠ 0) => absurd h71 (by omega))
      refine z_xN zt272 59 rfl rfl (fun (x72 : Int32) (h73 : x72.toInt = b6.toInt + 1) => ?_) (z_pAdd rfl rfl (by omega) (by omega))
      show z_ev (d + 4) 272 155 [some (.ref 19), some (.int p1), some (.int p2), some (.int p3), some (.int b4), some (.int b5), some (.int x72), some (.int 0)] [] M62 _
      refine z_xP zt272 60 43 [some (.ref 19), some (.int p1), some (.int p2), some (.int p3), some (.int b4), some (.int b5), some (.int x72), some (.int 0)] [] rfl rfl ?_
      have i74 : x72.toInt.toNat = b6.toInt.toNat + 1 := by omega
      have eq75 := (congrArg Int32.toInt ((congrFun (X.2.a f25 (by decide)) _).symm.trans h2)).symm.trans hYS.1.2.1
      have i76 := z_2q1 (x := x1) (by omega) (by omega) h6.1
      rw [show x1.toInt.toNat = t from by omega] at i76
      have q0 : ((0 : Int32)).toInt = 0 := rfl
      exact ih M62 b4 b5 x72 (some (.int 0)) X66 ⟨by omega, by omega⟩ ⟨by omega, by omega⟩ ⟨by omega, by omega⟩ ⟨by omega, by omega⟩ ⟨by omega, by omega⟩ ⟨by omega, by omega⟩ (by omega) (by omega) hYS (by rw [i74]; exact y_mnIA hI h58 h64 (by omega) (by omega)) (by omega) hQ (by omega)
    refine z_xP zt272 31 79 [some (.ref 19), some (.int p1), some (.int p2), some (.int p3), some (.int b4), some (.int b5), some (.int b6), o7] [.int 1] rfl rfl ?_
    refine z_xP zt272 33 83 [some (.ref 19), some (.int p1), some (.int p2), some (.int p3), some (.int b4), some (.int b5), some (.int b6), some (.int 1)] [.int 1] rfl rfl ?_
    refine z_xZ zt272 34 rfl rfl (fun (h77 : (1 : Int) = 0) => absurd h77 (by omega)) (fun (h77 : (1 : Int) ≠ 0) => ?_)
    refine z_xP zt272 35 91 [some (.ref 19), some (.int p1), some (.int p2), some (.int p3), some (.int b4), some (.int b5), some (.int b6), some (.int 1)] [.int b6, .int p2, .int p1, .ref 19] rfl rfl ?_
    refine z_xcV (vs := [.ref 19, .int p1, .int p2, .int b6]) (r := []) (L2 := [some (.ref 19), some (.int p1), some (.int p2), some (.int b6), none, none, none, none, none, none]) zt272 36 rfl zo272 zzcV12_368 (Or.inl rfl) rfl X66 f19 rfl rfl rfl (Nat.le_of_ble_eq_true rfl) zzm273 (Nat.le_of_ble_eq_true rfl) rfl ?_
    refine zUC273 X66.1 (by omega) (by omega) (by omega) (hYS.ke X66.1 X66.2 rfl) (fun x81 M78 X79 h82 h83 h80 => ?_)
    have X84 := X66.go X79 (z_sb (by decide))
    show z_ev (d + 4) 272 94 [some (.ref 19), some (.int p1), some (.int p2), some (.int p3), some (.int b4), some (.int b5), some (.int b6), some (.int 1)] [.int x81] M78 _
    refine z_xZ zt272 37 rfl rfl (fun (h86 : x81.toInt = 0) => ?_) (fun (h86 : x81.toInt ≠ 0) => ?_)
    · skip
      refine z_xN zt272 59 rfl rfl (fun (x87 : Int32) (h88 : x87.toInt = b6.toInt + 1) => ?_) (z_pAdd rfl rfl (by omega) (by omega))
      show z_ev (d + 4) 272 155 [some (.ref 19), some (.int p1), some (.int p2), some (.int p3), some (.int b4), some (.int b5), some (.int x87), some (.int 1)] [] M78 _
      refine z_xP zt272 60 43 [some (.ref 19), some (.int p1), some (.int p2), some (.int p3), some (.int b4), some (.int b5), some (.int x87), some (.int 1)] [] rfl rfl ?_
      have i89 : x87.toInt.toNat = b6.toInt.toNat + 1 := by omega
      have eq90 := (congrArg Int32.toInt ((congrFun (X.2.a f25 (by decide)) _).symm.trans h2)).symm.trans hYS.1.2.1
      have i91 := z_2q1 (x := x1) (by omega) (by omega) h6.1
      rw [show x1.toInt.toNat = t from by omega] at i91
      have q1 : ((1 : Int32)).toInt = 1 := rfl
      exact ih M78 b4 b5 x87 (some (.int 1)) X84 ⟨by omega, by omega⟩ ⟨by omega, by omega⟩ ⟨by omega, by omega⟩ ⟨by omega, by omega⟩ ⟨by omega, by omega⟩ ⟨by omega, by omega⟩ (by omega) (by omega) hYS (by rw [i89]; exact y_mnIZ hI (z_sfn h80 (by omega))) (by omega) hQ (by omega)
    refine z_xP zt272 38 99 [some (.ref 19), some (.int p1), some (.int p2), some (.int p3), some (.int b4), some (.int b5), some (.int b6), some (.int 1)] [.int b4] rfl rfl ?_
    refine z_xZ zt272 39 rfl rfl (fun (h92 : b4.toInt < 0) => absurd h92 (by omega)) (fun (h92 : 0 ≤ b4.toInt) => ?_)
    refine z_xP zt272 40 104 [some (.ref 19), some (.int p1), some (.int p2), some (.int p3), some (.int b4), some (.int b5), some (.int b6), some (.int 1)] [.int b6] rfl rfl ?_
    refine z_xcS (vs := [.int b6]) (r := []) (L2 := [some (.int b6), none, none]) zt272 41 rfl zo272 zzcS12_193 (Or.inl rfl) (Nat.le_of_ble_eq_true rfl) rfl rfl (Nat.le_of_ble_eq_true rfl) zzm207 (Nat.le_of_ble_eq_true rfl) rfl ?_
    refine zUC207 X84.1 (by omega) (fun x96 M93 X94 h95 => ?_)
    have X97 := X84.go X94 (z_sb (by decide))
    show z_ev (d + 4) 272 107 [some (.ref 19), some (.int p1), some (.int p2), some (.int p3), some (.int b4), some (.int b5), some (.int b6), some (.int 1)] [.int x96] M93 _
    refine z_xP zt272 42 109 [some (.ref 19), some (.int p1), some (.int p2), some (.int p3), some (.int b4), some (.int b5), some (.int b6), some (.int 1)] [.int b4, .int x96] rfl rfl ?_
    refine z_xcS (vs := [.int b4]) (r := [.int x96]) (L2 := [some (.int b4), none, none]) zt272 43 rfl zo272 zzcS12_193 (Or.inl rfl) (Nat.le_of_ble_eq_true rfl) rfl rfl (Nat.le_of_ble_eq_true rfl) zzm207 (Nat.le_of_ble_eq_true rfl) rfl ?_
    refine zUC207 X97.1 (by omega) (fun x102 M99 X100 h101 => ?_)
    have X103 := X97.go X100 (z_sb (by decide))
    show z_ev (d + 4) 272 112 [some (.ref 19), some (.int p1), some (.int p2), some (.int p3), some (.int b4), some (.int b5), some (.int b6), some (.int 1)] [.int x102, .int x96] M99 _
    have h105 := z_b32 x96
    have h106 := z_b32 x102
    refine z_xJ zt272 44 rfl rfl (fun (h107 : x96.toInt ≠ x102.toInt) => ?_) (fun (h107 : x96.toInt = x102.toInt) => ?_)
    · skip
      refine z_xP zt272 48 123 [some (.ref 19), some (.int p1), some (.int p2), some (.int p3), some (.int b4), some (.int b5), some (.int b6), some (.int 1)] [.int 1] rfl rfl ?_
      refine z_xP zt272 49 127 [some (.ref 19), some (.int p1), some (.int p2), some (.int p3), some (.int b4), some (.int 1), some (.int b6), some (.int 1)] [.int b4] rfl rfl ?_
      refine z_xZ zt272 50 rfl rfl (fun (h108 : b4.toInt < 0) => absurd h108 (by omega)) (fun (h108 : 0 ≤ b4.toInt) => ?_)
      refine z_xP zt272 51 132 [some (.ref 19), some (.int p1), some (.int p2), some (.int p3), some (.int b4), some (.int 1), some (.int b6), some (.int 1)] [.int b6] rfl rfl ?_
      refine z_xcS (vs := [.int b6]) (r := []) (L2 := [some (.int b6), none, none]) zt272 52 rfl zo272 zzcS12_193 (Or.inl rfl) (Nat.le_of_ble_eq_true rfl) rfl rfl (Nat.le_of_ble_eq_true rfl) zzm207 (Nat.le_of_ble_eq_true rfl) rfl ?_
      refine zUC207 X103.1 (by omega) (fun x112 M109 X110 h111 => ?_)
      have X113 := X103.go X110 (z_sb (by decide))
      show z_ev (d + 4) 272 135 [some (.ref 19), some (.int p1), some (.int p2), some (.int p3), some (.int b4), some (.int 1), some (.int b6), some (.int 1)] [.int x112] M109 _
      refine z_xP zt272 53 137 [some (.ref 19), some (.int p1), some (.int p2), some (.int p3), some (.int b4), some (.int 1), some (.int b6), some (.int 1)] [.int b4, .int x112] rfl rfl ?_
      refine z_xcS (vs := [.int b4]) (r := [.int x112]) (L2 := [some (.int b4), none, none]) zt272 54 rfl zo272 zzcS12_193 (Or.inl rfl) (Nat.le_of_ble_eq_true rfl) rfl rfl (Nat.le_of_ble_eq_true rfl) zzm207 (Nat.le_of_ble_eq_true rfl) rfl ?_
      refine zUC207 X113.1 (by omega) (fun x118 M115 X116 h117 => ?_)
      have X119 := X113.go X116 (z_sb (by decide))
      show z_ev (d + 4) 272 140 [some (.ref 19), some (.int p1), some (.int p2), some (.int p3), some (.int b4), some (.int 1), some (.int b6), some (.int 1)] [.int x118, .int x112] M115 _
      have h121 := z_b32 x112
      have h122 := z_b32 x118
      refine z_xJ zt272 55 rfl rfl (fun (h123 : x118.toInt ≤ x112.toInt) => ?_) (fun (h123 : x112.toInt < x118.toInt) => ?_)
      · skip
        refine z_xP zt272 57 150 [some (.ref 19), some (.int p1), some (.int p2), some (.int p3), some (.int b4), some (.int 1), some (.int b6), some (.int 1)] [.int b4] rfl rfl ?_
        refine z_xP zt272 58 152 [some (.ref 19), some (.int p1), some (.int p2), some (.int p3), some (.int b4), some (.int 1), some (.int b6), some (.int 1)] [] rfl rfl ?_
        refine z_xN zt272 59 rfl rfl (fun (x124 : Int32) (h125 : x124.toInt = b6.toInt + 1) => ?_) (z_pAdd rfl rfl (by omega) (by omega))
        show z_ev (d + 4) 272 155 [some (.ref 19), some (.int p1), some (.int p2), some (.int p3), some (.int b4), some (.int 1), some (.int x124), some (.int 1)] [] M115 _
        refine z_xP zt272 60 43 [some (.ref 19), some (.int p1), some (.int p2), some (.int p3), some (.int b4), some (.int 1), some (.int x124), some (.int 1)] [] rfl rfl ?_
        have q1 : ((1 : Int32)).toInt = 1 := rfl
        have i126 : x124.toInt.toNat = b6.toInt.toNat + 1 := by omega
        have eq127 := (congrArg Int32.toInt ((congrFun (X.2.a f25 (by decide)) _).symm.trans h2)).symm.trans hYS.1.2.1
        have i128 := z_2q1 (x := x1) (by omega) (by omega) h6.1
        rw [show x1.toInt.toNat = t from by omega] at i128
        have q1 : ((1 : Int32)).toInt = 1 := rfl
        exact ih M115 b4 (1) x124 (some (.int 1)) X119 ⟨by omega, by omega⟩ ⟨by omega, by omega⟩ ⟨by omega, by omega⟩ ⟨by omega, by omega⟩ (by decide) ⟨by omega, by omega⟩ (by omega) (by omega) hYS (by rw [i126]; exact y_mnIE hI (by omega) h95 h101 (by omega) (z_sfy h80 (by omega)) (by omega)) (by omega) hQ (by omega)
      refine z_xP zt272 56 150 [some (.ref 19), some (.int p1), some (.int p2), some (.int p3), some (.int b4), some (.int 1), some (.int b6), some (.int 1)] [.int b6] rfl rfl ?_
      refine z_xP zt272 58 152 [some (.ref 19), some (.int p1), some (.int p2), some (.int p3), some (.int b6), some (.int 1), some (.int b6), some (.int 1)] [] rfl rfl ?_
      refine z_xN zt272 59 rfl rfl (fun (x129 : Int32) (h130 : x129.toInt = b6.toInt + 1) => ?_) (z_pAdd rfl rfl (by omega) (by omega))
      show z_ev (d + 4) 272 155 [some (.ref 19), some (.int p1), some (.int p2), some (.int p3), some (.int b6), some (.int 1), some (.int x129), some (.int 1)] [] M115 _
      refine z_xP zt272 60 43 [some (.ref 19), some (.int p1), some (.int p2), some (.int p3), some (.int b6), some (.int 1), some (.int x129), some (.int 1)] [] rfl rfl ?_
      have q1 : ((1 : Int32)).toInt = 1 := rfl
      have i131 : x129.toInt.toNat = b6.toInt.toNat + 1 := by omega
      have eq132 := (congrArg Int32.toInt ((congrFun (X.2.a f25 (by decide)) _).symm.trans h2)).symm.trans hYS.1.2.1
      have i133 := z_2q1 (x := x1) (by omega) (by omega) h6.1
      rw [show x1.toInt.toNat = t from by omega] at i133
      have q1 : ((1 : Int32)).toInt = 1 := rfl
      exact ih M115 b6 (1) x129 (some (.int 1)) X119 ⟨by omega, by omega⟩ ⟨by omega, by omega⟩ ⟨by omega, by omega⟩ ⟨by omega, by omega⟩ (by decide) ⟨by omega, by omega⟩ (by omega) (by omega) hYS (by rw [i131]; exact y_mnIC hI (by omega) h95 h101 (by omega) (z_sfy h80 (by omega)) (by omega) (by omega)) (by omega) hQ (by omega)
    refine z_xP zt272 45 118 [some (.ref 19), some (.int p1), some (.int p2), some (.int p3), some (.int b4), some (.int b5), some (.int b6), some (.int 1)] [.int 1, .int b5] rfl rfl ?_
    refine z_xI zt272 46 rfl rfl (fun (x134 : Int32) (h135 : x134.toInt = b5.toInt + 1) => ?_) (z_pAdd rfl rfl (by omega) (by omega))
    refine z_xP zt272 47 123 [some (.ref 19), some (.int p1), some (.int p2), some (.int p3), some (.int b4), some (.int b5), some (.int b6), some (.int 1)] [.int x134] rfl rfl ?_
    refine z_xP zt272 49 127 [some (.ref 19), some (.int p1), some (.int p2), some (.int p3), some (.int b4), some (.int x134), some (.int b6), some (.int 1)] [.int b4] rfl rfl ?_
    refine z_xZ zt272 50 rfl rfl (fun (h136 : b4.toInt < 0) => absurd h136 (by omega)) (fun (h136 : 0 ≤ b4.toInt) => ?_)
    refine z_xP zt272 51 132 [some (.ref 19), some (.int p1), some (.int p2), some (.int p3), some (.int b4), some (.int x134), some (.int b6), some (.int 1)] [.int b6] rfl rfl ?_
    refine z_xcS (vs := [.int b6]) (r := []) (L2 := [some (.int b6), none, none]) zt272 52 rfl zo272 zzcS12_193 (Or.inl rfl) (Nat.le_of_ble_eq_true rfl) rfl rfl (Nat.le_of_ble_eq_true rfl) zzm207 (Nat.le_of_ble_eq_true rfl) rfl ?_
    refine zUC207 X103.1 (by omega) (fun x140 M137 X138 h139 => ?_)
    have X141 := X103.go X138 (z_sb (by decide))
    show z_ev (d + 4) 272 135 [some (.ref 19), some (.int p1), some (.int p2), some (.int p3), some (.int b4), some (.int x134), some (.int b6), some (.int 1)] [.int x140] M137 _
    refine z_xP zt272 53 137 [some (.ref 19), some (.int p1), some (.int p2), some (.int p3), some (.int b4), some (.int x134), some (.int b6), some (.int 1)] [.int b4, .int x140] rfl rfl ?_
    refine z_xcS (vs := [.int b4]) (r := [.int x140]) (L2 := [some (.int b4), none, none]) zt272 54 rfl zo272 zzcS12_193 (Or.inl rfl) (Nat.le_of_ble_eq_true rfl) rfl rfl (Nat.le_of_ble_eq_true rfl) zzm207 (Nat.le_of_ble_eq_true rfl) rfl ?_
    refine zUC207 X141.1 (by omega) (fun x146 M143 X144 h145 => ?_)
    have X147 := X141.go X144 (z_sb (by decide))
    show z_ev (d + 4) 272 140 [some (.ref 19), some (.int p1), some (.int p2), some (.int p3), some (.int b4), some (.int x134), some (.int b6), some (.int 1)] [.int x146, .int x140] M143 _
    have h149 := z_b32 x140
    have h150 := z_b32 x146
    refine z_xJ zt272 55 rfl rfl (fun (h151 : x146.toInt ≤ x140.toInt) => ?_) (fun (h151 : x140.toInt < x146.toInt) => ?_)
    · skip
      refine z_xP zt272 57 150 [some (.ref 19), some (.int p1), some (.int p2), some (.int p3), some (.int b4), some (.int x134), some (.int b6), some (.int 1)] [.int b4] rfl rfl ?_
      refine z_xP zt272 58 152 [some (.ref 19), some (.int p1), some (.int p2), some (.int p3), some (.int b4), some (.int x134), some (.int b6), some (.int 1)] [] rfl rfl ?_
      refine z_xN zt272 59 rfl rfl (fun (x152 : Int32) (h153 : x152.toInt = b6.toInt + 1) => ?_) (z_pAdd rfl rfl (by omega) (by omega))
      show z_ev (d + 4) 272 155 [some (.ref 19), some (.int p1), some (.int p2), some (.int p3), some (.int b4), some (.int x134), some (.int x152), some (.int 1)] [] M143 _
      refine z_xP zt272 60 43 [some (.ref 19), some (.int p1), some (.int p2), some (.int p3), some (.int b4), some (.int x134), some (.int x152), some (.int 1)] [] rfl rfl ?_
      have i154 : x152.toInt.toNat = b6.toInt.toNat + 1 := by omega
      have eq155 := (congrArg Int32.toInt ((congrFun (X.2.a f25 (by decide)) _).symm.trans h2)).symm.trans hYS.1.2.1
      have i156 := z_2q1 (x := x1) (by omega) (by omega) h6.1
      rw [show x1.toInt.toNat = t from by omega] at i156
      have q1 : ((1 : Int32)).toInt = 1 := rfl
      exact ih M143 b4 x134 x152 (some (.int 1)) X147 ⟨by omega, by omega⟩ ⟨by omega, by omega⟩ ⟨by omega, by omega⟩ ⟨by omega, by omega⟩ ⟨by omega, by omega⟩ ⟨by omega, by omega⟩ (by omega) (by omega) hYS (by rw [i154]; exact y_mnIE hI (by omega) h95 h101 (by omega) (z_sfy h80 (by omega)) (by omega)) (by omega) hQ (by omega)
    refine z_xP zt272 56 150 [some (.ref 19), some (.int p1), some (.int p2), some (.int p3), some (.int b4), some (.int x134), some (.int b6), some (.int 1)] [.int b6] rfl rfl ?_
    refine z_xP zt272 58 152 [some (.ref 19), some (.int p1), some (.int p2), some (.int p3), some (.int b6), some (.int x134), some (.int b6), some (.int 1)] [] rfl rfl ?_
    refine z_xN zt272 59 rfl rfl (fun (x157 : Int32) (h158 : x157.toInt = b6.toInt + 1) => ?_) (z_pAdd rfl rfl (by omega) (by omega))
    show z_ev (d + 4) 272 155 [some (.ref 19), some (.int p1), some (.int p2), some (.int p3), some (.int b6), some (.int x134), some (.int x157), some (.int 1)] [] M143 _
    refine z_xP zt272 60 43 [some (.ref 19), some (.int p1), some (.int p2), some (.int p3), some (.int b6), some (.int x134), some (.int x157), some (.int 1)] [] rfl rfl ?_
    have i159 : x157.toInt.toNat = b6.toInt.toNat + 1 := by omega
    have eq160 := (congrArg Int32.toInt ((congrFun (X.2.a f25 (by decide)) _).symm.trans h2)).symm.trans hYS.1.2.1
    have i161 := z_2q1 (x := x1) (by omega) (by omega) h6.1
    rw [show x1.toInt.toNat = t from by omega] at i161
    have q1 : ((1 : Int32)).toInt = 1 := rfl
    exact ih M143 b6 x134 x157 (some (.int 1)) X147 ⟨by omega, by omega⟩ ⟨by omega, by omega⟩ ⟨by omega, by omega⟩ ⟨by omega, by omega⟩ ⟨by omega, by omega⟩ ⟨by omega, by omega⟩ (by omega) (by omega) hYS (by rw [i159]; exact y_mnIC hI (by omega) h95 h101 (by omega) (z_sfy h80 (by omega)) (by omega) (by omega)) (by omega) hQ (by omega)
theorem zUC272 {T : List zK} {d : Nat} {K : Option Value → zH → Prop} {p1 : Int32} {p2 : Int32} {p3 : Int32} {q t m pr en : Nat} {B : Nat → Nat} {M0 : zH} (hW : z_W M0 T) (hYA : ∀ A : Int32, z_F M0 19 13 = some (.int A) → 0 ≤ p1.toInt → p1.toInt < A.toInt → z_YS M0 p1.toNatClampNeg q t m pr en B) (kk : ∀ (x : Int32) (M1 : zH), z_X T zw272 M0 M1 → y_qA M0 p1 x.toInt ((x.toInt = -1 ∧ ¬ (1 ≤ p2.toInt ∧ p2.toInt ≤ 5 ∧ 0 ≤ p3.toInt ∧ p3.toInt ≤ 2)) ∨ ((1 ≤ p2.toInt ∧ p2.toInt ≤ 5 ∧ 0 ≤ p3.toInt ∧ p3.toInt ≤ 2) ∧ z_mda (z_sfe B t q p2.toInt.toNat) (2 ^ t) p3.toInt x.toInt)) → K (some (.int x)) M1) : z_ev (d + 4) 272 0 [some (.ref 19), some (.int p1), some (.int p2), some (.int p3), none, none, none, none] [] M0 K := by
  have X : z_X T zw272 M0 M0 := .refl hW
  refine z_xP zt272 0 2 [some (.ref 19), some (.int p1), some (.int p2), some (.int p3), none, none, none, none] [.int p1, .ref 19] rfl rfl ?_
  have f19 : T[19]? = some (.inl (12, 0, 0, 0, 0)) := X.1.k rfl (by decide)
  refine z_xcV (vs := [.ref 19, .int p1]) (r := []) (L2 := [some (.ref 19), some (.int p1)]) zt272 1 rfl zo272 zzcV12_209 (Or.inl rfl) rfl X f19 rfl rfl rfl (Nat.le_of_ble_eq_true rfl) zzm209 (Nat.le_of_ble_eq_true rfl) rfl ?_
  refine z_xP zt209 0 1 [some (.ref 19), some (.int p1)] [.int p1] rfl rfl ?_
  refine z_xZ zt209 1 rfl rfl (fun (h1 : p1.toInt < 0) => ?_) (fun (h1 : 0 ≤ p1.toInt) => ?_)
  · skip
    refine z_xP zt209 6 17 [some (.ref 19), some (.int p1)] [.int 0] rfl rfl ?_
    refine z_xrz zt209 7 rfl zzr209 (by decide) (by decide) ?_
    show z_ev (d + 4) 272 5 [some (.ref 19), some (.int p1), some (.int p2), some (.int p3), none, none, none, none] [.int 0] M0 _
    refine z_xZ zt272 2 rfl rfl (fun (h2 : (0 : Int) = 0) => ?_) (fun (h2 : (0 : Int) ≠ 0) => absurd h2 (by omega))
    refine z_xP zt272 15 33 [some (.ref 19), some (.int p1), some (.int p2), some (.int p3), none, none, none, none] [.int (-1)] rfl rfl ?_
    have qm1 : (((-1) : Int32)).toInt = (-1) := rfl
    obtain ⟨x3, h4, h5, h6⟩ := z_W.fi X.1 f19 (k := 13) (lo := 0) (hi := 8) (by decide) rfl
    have qm1 : (((-1) : Int32)).toInt = (-1) := rfl
    exact z_xri zt272 16 rfl zzr272 (kk (-1) M0 X (y_qA0 h4 (by omega) (by omega)))
  refine z_xP zt209 2 6 [some (.ref 19), some (.int p1)] [.ref 19, .int p1] rfl rfl ?_
  refine z_xgI zt209 3 rfl zo209 zzf12_110 X f19 (by decide) (by decide) rfl (fun (x8 : Int32) h7 (h9 : 0 ≤ x8.toInt) (h10 : x8.toInt ≤ 8) => ?_)
  have h11 := z_b32 p1
  refine z_xJ zt209 4 rfl rfl (fun (h12 : x8.toInt ≤ p1.toInt) => ?_) (fun (h12 : p1.toInt < x8.toInt) => ?_)
  · skip
    refine z_xP zt209 6 17 [some (.ref 19), some (.int p1)] [.int 0] rfl rfl ?_
    refine z_xrz zt209 7 rfl zzr209 (by decide) (by decide) ?_
    show z_ev (d + 4) 272 5 [some (.ref 19), some (.int p1), some (.int p2), some (.int p3), none, none, none, none] [.int 0] M0 _
    refine z_xZ zt272 2 rfl rfl (fun (h13 : (0 : Int) = 0) => ?_) (fun (h13 : (0 : Int) ≠ 0) => absurd h13 (by omega))
    refine z_xP zt272 15 33 [some (.ref 19), some (.int p1), some (.int p2), some (.int p3), none, none, none, none] [.int (-1)] rfl rfl ?_
    have qm1 : (((-1) : Int32)).toInt = (-1) := rfl
    have qm1 : (((-1) : Int32)).toInt = (-1) := rfl
    exact z_xri zt272 16 rfl zzr272 (kk (-1) M0 X (y_qA0 h7 (by omega) (by omega)))
  refine z_xP zt209 5 17 [some (.ref 19), some (.int p1)] [.int 1] rfl rfl ?_
  refine z_xrz zt209 7 rfl zzr209 (by decide) (by decide) ?_
  show z_ev (d + 4) 272 5 [some (.ref 19), some (.int p1), some (.int p2), some (.int p3), none, none, none, none] [.int 1] M0 _
  refine z_xZ zt272 2 rfl rfl (fun (h14 : (1 : Int) = 0) => absurd h14 (by omega)) (fun (h14 : (1 : Int) ≠ 0) => ?_)
  refine z_xP zt272 3 9 [some (.ref 19), some (.int p1), some (.int p2), some (.int p3), none, none, none, none] [.int p2] rfl rfl ?_
  have h15 := z_b32 p2
  refine z_xL zt272 4 rfl rfl (fun (y16 : Int64) (h17 : y16.toInt = p2.toInt) => ?_) (z_qI2L rfl)
  refine z_xP zt272 5 11 [some (.ref 19), some (.int p1), some (.int p2), some (.int p3), none, none, none, none] [.long 1, .long y16] rfl rfl ?_
  refine z_xl2 zt272 6 rfl zo272 zkl12_318 ?_
  refine z_xcS (vs := [.long y16, .long 1, .long 5]) (r := []) (L2 := [some (.long y16), none, some (.long 1), none, some (.long 5), none]) zt272 7 rfl zo272 zzcS12_116 (Or.inl rfl) (Nat.le_of_ble_eq_true rfl) rfl rfl (Nat.le_of_ble_eq_true rfl) zzm189 (Nat.le_of_ble_eq_true rfl) rfl ?_
  refine z_xP zt189 0 2 [some (.long y16), none, some (.long 1), none, some (.long 5), none] [.long 1, .long y16] rfl rfl ?_
  refine z_xI zt189 1 rfl rfl (fun (x18 : Int32) (h19 : (x18.toInt < 0 ∧ y16.toInt < 1) ∨ (x18.toInt = 0 ∧ y16.toInt = 1) ∨ (0 < x18.toInt ∧ 1 < y16.toInt)) => ?_) (z_qCmp rfl rfl)
  refine z_xZ zt189 2 rfl rfl (fun (h20 : x18.toInt < 0) => ?_) (fun (h20 : 0 ≤ x18.toInt) => ?_)
  · skip
    refine z_xP zt189 7 18 [some (.long y16), none, some (.long 1), none, some (.long 5), none] [.int 0] rfl rfl ?_
    refine z_xrz zt189 8 rfl zzr189 (by decide) (by decide) ?_
    show z_ev (d + 4) 272 17 [some (.ref 19), some (.int p1), some (.int p2), some (.int p3), none, none, none, none] [.int 0] M0 _
    refine z_xZ zt272 8 rfl rfl (fun (h21 : (0 : Int) = 0) => ?_) (fun (h21 : (0 : Int) ≠ 0) => absurd h21 (by omega))
    refine z_xP zt272 15 33 [some (.ref 19), some (.int p1), some (.int p2), some (.int p3), none, none, none, none] [.int (-1)] rfl rfl ?_
    have qm1 : (((-1) : Int32)).toInt = (-1) := rfl
    have qm1 : (((-1) : Int32)).toInt = (-1) := rfl
    exact z_xri zt272 16 rfl zzr272 (kk (-1) M0 X (y_qA1 h7 ⟨by omega, by omega⟩ (Or.inl ⟨by omega, by omega⟩)))
  refine z_xP zt189 3 9 [some (.long y16), none, some (.long 1), none, some (.long 5), none] [.long 5, .long y16] rfl rfl ?_
  refine z_xI zt189 4 rfl rfl (fun (x22 : Int32) (h23 : (x22.toInt < 0 ∧ y16.toInt < 5) ∨ (x22.toInt = 0 ∧ y16.toInt = 5) ∨ (0 < x22.toInt ∧ 5 < y16.toInt)) => ?_) (z_qCmp rfl rfl)
  refine z_xZ zt189 5 rfl rfl (fun (h24 : 0 < x22.toInt) => ?_) (fun (h24 : x22.toInt ≤ 0) => ?_)
  · skip
    refine z_xP zt189 7 18 [some (.long y16), none, some (.long 1), none, some (.long 5), none] [.int 0] rfl rfl ?_
    refine z_xrz zt189 8 rfl zzr189 (by decide) (by decide) ?_
    show z_ev (d + 4) 272 17 [some (.ref 19), some (.int p1), some (.int p2), some (.int p3), none, none, none, none] [.int 0] M0 _
    refine z_xZ zt272 8 rfl rfl (fun (h25 : (0 : Int) = 0) => ?_) (fun (h25 : (0 : Int) ≠ 0) => absurd h25 (by omega))
    refine z_xP zt272 15 33 [some (.ref 19), some (.int p1), some (.int p2), some (.int p3), none, none, none, none] [.int (-1)] rfl rfl ?_
    have qm1 : (((-1) : Int32)).toInt = (-1) := rfl
    have qm1 : (((-1) : Int32)).toInt = (-1) := rfl
    exact z_xri zt272 16 rfl zzr272 (kk (-1) M0 X (y_qA1 h7 ⟨by omega, by omega⟩ (Or.inl ⟨by omega, by omega⟩)))
  refine z_xP zt189 6 18 [some (.long y16), none, some (.long 1), none, some (.long 5), none] [.int 1] rfl rfl ?_
  refine z_xrz zt189 8 rfl zzr189 (by decide) (by decide) ?_
  show z_ev (d + 4) 272 17 [some (.ref 19), some (.int p1), some (.int p2), some (.int p3), none, none, none, none] [.int 1] M0 _
  refine z_xZ zt272 8 rfl rfl (fun (h26 : (1 : Int) = 0) => absurd h26 (by omega)) (fun (h26 : (1 : Int) ≠ 0) => ?_)
  refine z_xP zt272 9 21 [some (.ref 19), some (.int p1), some (.int p2), some (.int p3), none, none, none, none] [.int p3] rfl rfl ?_
  have h27 := z_b32 p3
  refine z_xL zt272 10 rfl rfl (fun (y28 : Int64) (h29 : y28.toInt = p3.toInt) => ?_) (z_qI2L rfl)
  refine z_xP zt272 11 23 [some (.ref 19), some (.int p1), some (.int p2), some (.int p3), none, none, none, none] [.long 0, .long y28] rfl rfl ?_
  refine z_xl2 zt272 12 rfl zo272 zkl12_240 ?_
  refine z_xcS (vs := [.long y28, .long 0, .long 2]) (r := []) (L2 := [some (.long y28), none, some (.long 0), none, some (.long 2), none]) zt272 13 rfl zo272 zzcS12_116 (Or.inl rfl) (Nat.le_of_ble_eq_true rfl) rfl rfl (Nat.le_of_ble_eq_true rfl) zzm189 (Nat.le_of_ble_eq_true rfl) rfl ?_
  refine z_xP zt189 0 2 [some (.long y28), none, some (.long 0), none, some (.long 2), none] [.long 0, .long y28] rfl rfl ?_
  refine z_xI zt189 1 rfl rfl (fun (x30 : Int32) (h31 : (x30.toInt < 0 ∧ y28.toInt < 0) ∨ (x30.toInt = 0 ∧ y28.toInt = 0) ∨ (0 < x30.toInt ∧ 0 < y28.toInt)) => ?_) (z_qCmp rfl rfl)
  refine z_xZ zt189 2 rfl rfl (fun (h32 : x30.toInt < 0) => ?_) (fun (h32 : 0 ≤ x30.toInt) => ?_)
  · skip
    refine z_xP zt189 7 18 [some (.long y28), none, some (.long 0), none, some (.long 2), none] [.int 0] rfl rfl ?_
    refine z_xrz zt189 8 rfl zzr189 (by decide) (by decide) ?_
    show z_ev (d + 4) 272 29 [some (.ref 19), some (.int p1), some (.int p2), some (.int p3), none, none, none, none] [.int 0] M0 _
    refine z_xZ zt272 14 rfl rfl (fun (h33 : (0 : Int) ≠ 0) => absurd h33 (by omega)) (fun (h33 : (0 : Int) = 0) => ?_)
    refine z_xP zt272 15 33 [some (.ref 19), some (.int p1), some (.int p2), some (.int p3), none, none, none, none] [.int (-1)] rfl rfl ?_
    have qm1 : (((-1) : Int32)).toInt = (-1) := rfl
    have qm1 : (((-1) : Int32)).toInt = (-1) := rfl
    exact z_xri zt272 16 rfl zzr272 (kk (-1) M0 X (y_qA1 h7 ⟨by omega, by omega⟩ (Or.inl ⟨by omega, by omega⟩)))
  refine z_xP zt189 3 9 [some (.long y28), none, some (.long 0), none, some (.long 2), none] [.long 2, .long y28] rfl rfl ?_
  refine z_xI zt189 4 rfl rfl (fun (x34 : Int32) (h35 : (x34.toInt < 0 ∧ y28.toInt < 2) ∨ (x34.toInt = 0 ∧ y28.toInt = 2) ∨ (0 < x34.toInt ∧ 2 < y28.toInt)) => ?_) (z_qCmp rfl rfl)
  refine z_xZ zt189 5 rfl rfl (fun (h36 : 0 < x34.toInt) => ?_) (fun (h36 : x34.toInt ≤ 0) => ?_)
  · skip
    refine z_xP zt189 7 18 [some (.long y28), none, some (.long 0), none, some (.long 2), none] [.int 0] rfl rfl ?_
    refine z_xrz zt189 8 rfl zzr189 (by decide) (by decide) ?_
    show z_ev (d + 4) 272 29 [some (.ref 19), some (.int p1), some (.int p2), some (.int p3), none, none, none, none] [.int 0] M0 _
    refine z_xZ zt272 14 rfl rfl (fun (h37 : (0 : Int) ≠ 0) => absurd h37 (by omega)) (fun (h37 : (0 : Int) = 0) => ?_)
    refine z_xP zt272 15 33 [some (.ref 19), some (.int p1), some (.int p2), some (.int p3), none, none, none, none] [.int (-1)] rfl rfl ?_
    have qm1 : (((-1) : Int32)).toInt = (-1) := rfl
    have qm1 : (((-1) : Int32)).toInt = (-1) := rfl
    exact z_xri zt272 16 rfl zzr272 (kk (-1) M0 X (y_qA1 h7 ⟨by omega, by omega⟩ (Or.inl ⟨by omega, by omega⟩)))
  refine z_xP zt189 6 18 [some (.long y28), none, some (.long 0), none, some (.long 2), none] [.int 1] rfl rfl ?_
  refine z_xrz zt189 8 rfl zzr189 (by decide) (by decide) ?_
  show z_ev (d + 4) 272 29 [some (.ref 19), some (.int p1), some (.int p2), some (.int p3), none, none, none, none] [.int 1] M0 _
  refine z_xZ zt272 14 rfl rfl (fun (h38 : (1 : Int) ≠ 0) => ?_) (fun (h38 : (1 : Int) = 0) => absurd h38 (by omega))
  refine z_xP zt272 17 43 [some (.ref 19), some (.int p1), some (.int p2), some (.int p3), some (.int (-1)), some (.int 0), some (.int 0), none] [] rfl rfl ?_
  have qm1 : (((-1) : Int32)).toInt = (-1) := rfl
  have q0 : ((0 : Int32)).toInt = 0 := rfl
  have qm1 : (((-1) : Int32)).toInt = (-1) := rfl
  have q0 : ((0 : Int32)).toInt = 0 := rfl
  exact (zUB272 hYA kk 514) M0 ((-1)) (0) (0) none X ⟨by omega, by omega⟩ ⟨by omega, by omega⟩ ⟨by omega, by omega⟩ (by decide) (by decide) (by decide) (by omega) (by omega) (hYA _ h7 (by omega) (by omega)) (y_mnI0 (i0 := 0) rfl rfl) (by have := Nat.two_pow_pos t; generalize (2 : Nat) ^ t = P at *; omega) ⟨_, h7, by omega, by omega⟩ (by omega)
