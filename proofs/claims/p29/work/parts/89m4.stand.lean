/-! mend: threes and fours of the class, told -/
theorem zUB152 {T : List zK} {d : Nat} {K : Option Value → zH → Prop} {a0 : Nat} {q : Nat} {t : Nat} {m : Nat} {p1 : Int32} {p2 : Int32} {p3 : Int32} {fw : Nat} {M0 : zH} (k0 : T[a0]? = some (.inl (2, q, t, m, 0))) (u1 : 0 ≤ p1.toInt ∧ p1.toInt ≤ 2047) (u2 : 0 ≤ p2.toInt ∧ p2.toInt ≤ 1023) (u3 : 4 ≤ p3.toInt ∧ p3.toInt ≤ 12) (hfw : z_F M0 a0 13 = some (.ref fw)) (kfw : T[fw]? = some (.inr (113, 0, 12, 0, 64 * ((z_bl q : Nat) : Int) - 1))) (kk : ∀ (x : Int32) (M1 : zH), z_X T zw152 M0 M1 → 0 ≤ x.toInt → x.toInt ≤ 1 → z_smF (z_Ar M0 fw) p3.toInt p1 p2 x.toInt → K (some (.int x)) M1) : ∀ n : Nat, (∀ (M : zH) (b4 : Int32), z_X T zw152 M0 M → 0 ≤ b4.toInt ∧ b4.toInt ≤ 12 → (∀ i : Nat, (i : Int) < b4.toInt → z_Ar M0 fw i &&& (p1 ||| p2) ≠ p1) → ((0) * 2 + 0) * 13 + (12 - b4.toInt) < (n : Int) → z_ev d 152 3 [some (.ref a0), some (.int p1), some (.int p2), some (.int p3), some (.int b4)] [] M K) := by
  intro n
  induction n with
  | zero => exact by intros; exfalso; omega
  | succ n ih =>
    intro M b4 X hh0 hI hE
    have g0 := X.1.p2 k0
    refine z_xP zt152 1 6 [some (.ref a0), some (.int p1), some (.int p2), some (.int p3), some (.int b4)] [.int p3, .int b4] rfl rfl ?_
    refine z_xJ zt152 2 rfl rfl (fun (h1 : p3.toInt ≤ b4.toInt) => ?_) (fun (h1 : b4.toInt < p3.toInt) => ?_)
    · skip
      refine z_xP zt152 16 33 [some (.ref a0), some (.int p1), some (.int p2), some (.int p3), some (.int b4)] [.int 0] rfl rfl ?_
      have q0 : ((0 : Int32)).toInt = 0 := rfl
      have q0 : ((0 : Int32)).toInt = 0 := rfl
      exact z_xrz zt152 17 rfl zzr152 (by decide) (by decide) (kk 0 M X (by omega) (by omega) (Or.inr ⟨by omega, fun i hi => hI i (by omega)⟩))
    refine z_xP zt152 3 10 [some (.ref a0), some (.int p1), some (.int p2), some (.int p3), some (.int b4)] [.ref a0] rfl rfl ?_
    refine z_xgR (κ := .inr (113, 0, 12, 0, 64 * ((z_bl q : Nat) : Int) - 1)) zt152 4 rfl zo152 zzf2_9 X k0 (by decide) (by decide) rfl (fun (a3 : Nat) h2 k4 => ?_)
    refine z_xP zt152 5 15 [some (.ref a0), some (.int p1), some (.int p2), some (.int p3), some (.int b4)] [.int b4, .ref a3] rfl rfl ?_
    refine z_xil zt152 6 rfl X k4 (by decide) (by omega) (by omega) (fun (x5 : Int32) h6 (h7 : 0 ≤ x5.toInt) (h8 : x5.toInt ≤ 64 * ((z_bl q : Nat) : Int) - 1) => ?_)
    refine z_xP zt152 7 18 [some (.ref a0), some (.int p1), some (.int p2), some (.int p3), some (.int b4)] [.int p2, .int p1, .int x5] rfl rfl ?_
    refine z_xI zt152 8 rfl rfl (fun (x9 : Int32) (h10 : x9 = p1 ||| p2 ∧ 0 ≤ x9.toInt ∧ x9.toInt < 2048 ∧ p1.toInt ≤ x9.toInt ∧ p2.toInt ≤ x9.toInt) => ?_) (⟨rfl, z_pOr 11 rfl rfl (by omega) (by omega) (by decide) (by omega) (by omega) (by decide)⟩)
    refine z_xI zt152 9 rfl rfl (fun (x11 : Int32) (h12 : x11 = x5 &&& x9 ∧ 0 ≤ x11.toInt ∧ x11.toInt ≤ x5.toInt ∧ x11.toInt ≤ x9.toInt) => ?_) (⟨rfl, z_pAnd2 rfl rfl (by omega) (by omega)⟩)
    refine z_xP zt152 10 21 [some (.ref a0), some (.int p1), some (.int p2), some (.int p3), some (.int b4)] [.int p1, .int x11] rfl rfl ?_
    refine z_xJ zt152 11 rfl rfl (fun (h13 : x11.toInt ≠ p1.toInt) => ?_) (fun (h13 : x11.toInt = p1.toInt) => ?_)
    · skip
      refine z_xN zt152 14 rfl rfl (fun (x14 : Int32) (h15 : x14.toInt = b4.toInt + 1) => ?_) (z_pAdd rfl rfl (by omega) (by omega))
      show z_ev d 152 29 [some (.ref a0), some (.int p1), some (.int p2), some (.int p3), some (.int x14)] [] M _
      refine z_xP zt152 15 3 [some (.ref a0), some (.int p1), some (.int p2), some (.int p3), some (.int x14)] [] rfl rfl ?_
      have ia16 := z_rfM h2 (X.2.f k0 (by decide) hfw)
      have h17 := h6
      rw [ia16] at h17
      exact ih M x14 X ⟨by omega, by omega⟩ (z_smS hI (by omega) ((congrFun (X.2.a kfw (by decide)) _).symm.trans h17) h10.1 h12.1 (by omega) (by omega)) (by omega)
    refine z_xP zt152 12 25 [some (.ref a0), some (.int p1), some (.int p2), some (.int p3), some (.int b4)] [.int 1] rfl rfl ?_
    have q1 : ((1 : Int32)).toInt = 1 := rfl
    have ia18 := z_rfM h2 (X.2.f k0 (by decide) hfw)
    have h19 := h6
    rw [ia18] at h19
    have q1 : ((1 : Int32)).toInt = 1 := rfl
    exact z_xrz zt152 13 rfl zzr152 (by decide) (by decide) (kk 1 M X (by omega) (by omega) (Or.inl ⟨by omega, z_smE (by omega) (by omega) ((congrFun (X.2.a kfw (by decide)) _).symm.trans h19) h10.1 h12.1 (by omega)⟩))
theorem zUC152 {T : List zK} {d : Nat} {K : Option Value → zH → Prop} {a0 : Nat} {q : Nat} {t : Nat} {m : Nat} {p1 : Int32} {p2 : Int32} {p3 : Int32} {fw : Nat} {M0 : zH} (hW : z_W M0 T) (k0 : T[a0]? = some (.inl (2, q, t, m, 0))) (u1 : 0 ≤ p1.toInt ∧ p1.toInt ≤ 2047) (u2 : 0 ≤ p2.toInt ∧ p2.toInt ≤ 1023) (u3 : 4 ≤ p3.toInt ∧ p3.toInt ≤ 12) (hfw : z_F M0 a0 13 = some (.ref fw)) (kfw : T[fw]? = some (.inr (113, 0, 12, 0, 64 * ((z_bl q : Nat) : Int) - 1))) (kk : ∀ (x : Int32) (M1 : zH), z_X T zw152 M0 M1 → 0 ≤ x.toInt → x.toInt ≤ 1 → z_smF (z_Ar M0 fw) p3.toInt p1 p2 x.toInt → K (some (.int x)) M1) : z_ev d 152 0 [some (.ref a0), some (.int p1), some (.int p2), some (.int p3), none] [] M0 K := by
  have X : z_X T zw152 M0 M0 := .refl hW
  have g0 := X.1.p2 k0
  refine z_xP zt152 0 3 [some (.ref a0), some (.int p1), some (.int p2), some (.int p3), some (.int 0)] [] rfl rfl ?_
  have q0 : ((0 : Int32)).toInt = 0 := rfl
  exact (zUB152 k0 u1 u2 u3 hfw kfw kk 26) M0 (0) X (by decide) (fun i hi => absurd hi (by omega)) (by omega)
theorem zUB153 {T : List zK} {d : Nat} {K : Option Value → zH → Prop} {a0 : Nat} {q : Nat} {t : Nat} {m : Nat} {p1 : Int32} {fw fb : Nat} {M0 : zH} (k0 : T[a0]? = some (.inl (2, q, t, m, 0))) (u1 : (-2147483648) ≤ p1.toInt ∧ p1.toInt ≤ 12) (hfw : z_F M0 a0 13 = some (.ref fw)) (kfw : T[fw]? = some (.inr (113, 0, 12, 0, 64 * ((z_bl q : Nat) : Int) - 1))) (hfb : z_F M0 a0 12 = some (.ref fb)) (kfb : T[fb]? = some (.inr (112, 1, z_bl q, 0, 0))) (kk : ∀ (x : Int32) (M1 : zH), z_X T zw153 M0 M1 → 0 ≤ x.toInt → x.toInt ≤ 1 → z_thQ (z_Ar M0 fw) (z_Lg M0 fb) p1.toInt.toNat x.toInt → K (some (.int x)) M1) : ∀ n : Nat, (∀ (M : zH) (b2 : Int32) (o3 : Option Value) (o4 : Option Value) (o5 : Option Value) (o6 : Option Value) (o7 : Option Value), z_X T zw153 M0 M → 0 ≤ b2.toInt ∧ b2.toInt ≤ 12 → z_l3 (z_tP (z_Ar M0 fw) (z_Lg M0 fb)) p1.toInt.toNat b2.toInt.toNat 0 0 → ((((((0) * 4 + 2) * 13 + (12 - b2.toInt)) * 4 + 3) * 12 + (0)) * 4 + 3) * 11 + (0) < (n : Int) → z_ev d 153 2 [some (.ref a0), some (.int p1), some (.int b2), o3, o4, o5, o6, o7] [] M K) ∧ (∀ (M : zH) (b2 : Int32) (b3 : Int32) (o4 : Option Value) (o5 : Option Value) (o6 : Option Value) (o7 : Option Value), z_X T zw153 M0 M → 1 ≤ p1.toInt ∧ p1.toInt ≤ 12 → 0 ≤ b2.toInt ∧ b2.toInt ≤ 11 → 1 ≤ b3.toInt ∧ b3.toInt ≤ 12 → b2.toInt < b3.toInt → z_l3 (z_tP (z_Ar M0 fw) (z_Lg M0 fb)) p1.toInt.toNat b2.toInt.toNat b3.toInt.toNat 0 → ((((((0) * 4 + 2) * 13 + (12 - b2.toInt)) * 4 + 1) * 12 + (12 - b3.toInt)) * 4 + 3) * 11 + (0) < (n : Int) → z_ev d 153 11 [some (.ref a0), some (.int p1), some (.int b2), some (.int b3), o4, o5, o6, o7] [] M K) ∧ (∀ (M : zH) (b2 : Int32) (b3 : Int32) (b4 : Int32) (b5 : Int32) (b6 : Int32) (o7 : Option Value), z_X T zw153 M0 M → 2 ≤ p1.toInt ∧ p1.toInt ≤ 12 → 0 ≤ b2.toInt ∧ b2.toInt ≤ 11 → 1 ≤ b3.toInt ∧ b3.toInt ≤ 11 → 0 ≤ b4.toInt ∧ b4.toInt ≤ 1023 → 0 ≤ b5.toInt ∧ b5.toInt ≤ 1023 → 2 ≤ b6.toInt ∧ b6.toInt ≤ 12 → b4.toInt < 64 * ((z_bl q : Nat) : Int) → b5.toInt < 64 * ((z_bl q : Nat) : Int) → b2.toInt < b3.toInt → b3.toInt < b6.toInt → z_l3 (z_tP (z_Ar M0 fw) (z_Lg M0 fb)) p1.toInt.toNat b2.toInt.toNat b3.toInt.toNat b6.toInt.toNat → b4 = z_Ar M0 fw b2.toInt.toNat &&& z_Ar M0 fw b3.toInt.toNat → b5 = z_Ar M0 fw b2.toInt.toNat ||| z_Ar M0 fw b3.toInt.toNat → ((((((0) * 4 + 2) * 13 + (12 - b2.toInt)) * 4 + 1) * 12 + (12 - b3.toInt)) * 4 + 0) * 11 + (12 - b6.toInt) < (n : Int) → z_ev d 153 51 [some (.ref a0), some (.int p1), some (.int b2), some (.int b3), some (.int b4), some (.int b5), some (.int b6), o7] [] M K) := by
  intro n
  induction n with
  | zero => exact ⟨(by intros; exfalso; omega), (by intros; exfalso; omega), (by intros; exfalso; omega)⟩
  | succ n ih =>
    refine ⟨?_, ?_, ?_⟩
    · skip
      intro M b2 o3 o4 o5 o6 o7 X hh0 hI hE
      have g0 := X.1.p2 k0
      refine z_xP zt153 1 4 [some (.ref a0), some (.int p1), some (.int b2), o3, o4, o5, o6, o7] [.int p1, .int b2] rfl rfl ?_
      have h1 := z_b32 p1
      refine z_xJ zt153 2 rfl rfl (fun (h2 : p1.toInt ≤ b2.toInt) => ?_) (fun (h2 : b2.toInt < p1.toInt) => ?_)
      · skip
        refine z_xP zt153 58 116 [some (.ref a0), some (.int p1), some (.int b2), o3, o4, o5, o6, o7] [.int 1] rfl rfl ?_
        have q1 : ((1 : Int32)).toInt = 1 := rfl
        have q1 : ((1 : Int32)).toInt = 1 := rfl
        exact z_xrz zt153 59 rfl zzr153 (by decide) (by decide) (kk 1 M X (by omega) (by omega) (Or.inl ⟨by omega, z_l3E hI (by omega)⟩))
      refine z_xP zt153 3 9 [some (.ref a0), some (.int p1), some (.int b2), o3, o4, o5, o6, o7] [.int 1, .int b2] rfl rfl ?_
      refine z_xI zt153 4 rfl rfl (fun (x3 : Int32) (h4 : x3.toInt = b2.toInt + 1) => ?_) (z_pAdd rfl rfl (by omega) (by omega))
      refine z_xP zt153 5 11 [some (.ref a0), some (.int p1), some (.int b2), some (.int x3), o4, o5, o6, o7] [] rfl rfl ?_
      exact ih.2.1 M b2 x3 (o4) (o5) (o6) (o7) X ⟨by omega, by omega⟩ ⟨by omega, by omega⟩ ⟨by omega, by omega⟩ (by omega) (by rw [show x3.toInt.toNat = b2.toInt.toNat + 1 from by omega]; exact z_l3j0 hI) (by omega)
    · skip
      intro M b2 b3 o4 o5 o6 o7 X hh0 hh1 hh2 hh3 hI hE
      have g0 := X.1.p2 k0
      refine z_xP zt153 6 13 [some (.ref a0), some (.int p1), some (.int b2), some (.int b3), o4, o5, o6, o7] [.int p1, .int b3] rfl rfl ?_
      refine z_xJ zt153 7 rfl rfl (fun (h1 : p1.toInt ≤ b3.toInt) => ?_) (fun (h1 : b3.toInt < p1.toInt) => ?_)
      · skip
        refine z_xN zt153 56 rfl rfl (fun (x2 : Int32) (h3 : x2.toInt = b2.toInt + 1) => ?_) (z_pAdd rfl rfl (by omega) (by omega))
        show z_ev d 153 112 [some (.ref a0), some (.int p1), some (.int x2), some (.int b3), o4, o5, o6, o7] [] M _
        refine z_xP zt153 57 2 [some (.ref a0), some (.int p1), some (.int x2), some (.int b3), o4, o5, o6, o7] [] rfl rfl ?_
        exact ih.1 M x2 (some (.int b3)) (o4) (o5) (o6) (o7) X ⟨by omega, by omega⟩ (by rw [show x2.toInt.toNat = b2.toInt.toNat + 1 from by omega]; exact z_l3i hI (by omega)) (by omega)
      refine z_xP zt153 8 17 [some (.ref a0), some (.int p1), some (.int b2), some (.int b3), o4, o5, o6, o7] [.ref a0] rfl rfl ?_
      refine z_xgR (κ := .inr (113, 0, 12, 0, 64 * ((z_bl q : Nat) : Int) - 1)) zt153 9 rfl zo153 zzf2_9 X k0 (by decide) (by decide) rfl (fun (a5 : Nat) h4 k6 => ?_)
      refine z_xP zt153 10 21 [some (.ref a0), some (.int p1), some (.int b2), some (.int b3), o4, o5, o6, o7] [.int b2, .ref a5] rfl rfl ?_
      refine z_xil zt153 11 rfl X k6 (by decide) (by omega) (by omega) (fun (x7 : Int32) h8 (h9 : 0 ≤ x7.toInt) (h10 : x7.toInt ≤ 64 * ((z_bl q : Nat) : Int) - 1) => ?_)
      refine z_xP zt153 12 23 [some (.ref a0), some (.int p1), some (.int b2), some (.int b3), o4, o5, o6, o7] [.ref a0, .int x7] rfl rfl ?_
      refine z_xgv zt153 13 rfl zo153 zzf2_9 X k0 (by decide) h4 ?_
      refine z_xP zt153 14 27 [some (.ref a0), some (.int p1), some (.int b2), some (.int b3), o4, o5, o6, o7] [.int b3, .ref a5, .int x7] rfl rfl ?_
      refine z_xil zt153 15 rfl X k6 (by decide) (by omega) (by omega) (fun (x11 : Int32) h12 (h13 : 0 ≤ x11.toInt) (h14 : x11.toInt ≤ 64 * ((z_bl q : Nat) : Int) - 1) => ?_)
      refine z_xI zt153 16 rfl rfl (fun (x15 : Int32) (h16 : x15 = x7 &&& x11 ∧ 0 ≤ x15.toInt ∧ x15.toInt ≤ x7.toInt ∧ x15.toInt ≤ x11.toInt) => ?_) (⟨rfl, z_pAnd2 rfl rfl (by omega) (by omega)⟩)
      refine z_xP zt153 17 32 [some (.ref a0), some (.int p1), some (.int b2), some (.int b3), some (.int x15), o5, o6, o7] [.ref a0] rfl rfl ?_
      refine z_xgv zt153 18 rfl zo153 zzf2_9 X k0 (by decide) h4 ?_
      refine z_xP zt153 19 36 [some (.ref a0), some (.int p1), some (.int b2), some (.int b3), some (.int x15), o5, o6, o7] [.int b2, .ref a5] rfl rfl ?_
      refine z_xil zt153 20 rfl X k6 (by decide) (by omega) (by omega) (fun (x17 : Int32) h18 (h19 : 0 ≤ x17.toInt) (h20 : x17.toInt ≤ 64 * ((z_bl q : Nat) : Int) - 1) => ?_)
      have h21 := congrArg Int32.toInt (h18.symm.trans h8)
      refine z_xP zt153 21 38 [some (.ref a0), some (.int p1), some (.int b2), some (.int b3), some (.int x15), o5, o6, o7] [.ref a0, .int x17] rfl rfl ?_
      refine z_xgv zt153 22 rfl zo153 zzf2_9 X k0 (by decide) h4 ?_
      refine z_xP zt153 23 42 [some (.ref a0), some (.int p1), some (.int b2), some (.int b3), some (.int x15), o5, o6, o7] [.int b3, .ref a5, .int x17] rfl rfl ?_
      refine z_xil zt153 24 rfl X k6 (by decide) (by omega) (by omega) (fun (x22 : Int32) h23 (h24 : 0 ≤ x22.toInt) (h25 : x22.toInt ≤ 64 * ((z_bl q : Nat) : Int) - 1) => ?_)
      have h26 := congrArg Int32.toInt (h23.symm.trans h12)
      refine z_xI zt153 25 rfl rfl (fun (x27 : Int32) (h28 : x27 = x17 ||| x22 ∧ 0 ≤ x27.toInt ∧ x27.toInt < 64 * ((z_bl q : Nat) : Int)) => ?_) (⟨rfl, z_pOrB rfl rfl (by omega) (by omega) (by omega) (by omega) (by omega) (by omega)⟩)
      refine z_xP zt153 26 48 [some (.ref a0), some (.int p1), some (.int b2), some (.int b3), some (.int x15), some (.int x27), o6, o7] [.int 1, .int b3] rfl rfl ?_
      refine z_xI zt153 27 rfl rfl (fun (x29 : Int32) (h30 : x29.toInt = b3.toInt + 1) => ?_) (z_pAdd rfl rfl (by omega) (by omega))
      refine z_xP zt153 28 51 [some (.ref a0), some (.int p1), some (.int b2), some (.int b3), some (.int x15), some (.int x27), some (.int x29), o7] [] rfl rfl ?_
      have ia31 := z_rfM h4 (X.2.f k0 (by decide) hfw)
      have h32 := h8
      rw [ia31] at h32
      have ia33 := z_rfM h4 (X.2.f k0 (by decide) hfw)
      have h34 := h12
      rw [ia33] at h34
      have ia35 := z_rfM h4 (X.2.f k0 (by decide) hfw)
      have h36 := h18
      rw [ia35] at h36
      have ia37 := z_rfM h4 (X.2.f k0 (by decide) hfw)
      have h38 := h23
      rw [ia37] at h38
      exact ih.2.2 M b2 b3 x15 x27 x29 (o7) X ⟨by omega, by omega⟩ ⟨by omega, by omega⟩ ⟨by omega, by omega⟩ ⟨by omega, by omega⟩ ⟨by omega, by omega⟩ ⟨by omega, by omega⟩ (by omega) (by omega) (by omega) (by omega) (by rw [show x29.toInt.toNat = b3.toInt.toNat + 1 from by omega]; exact z_l3k0 hI) (z_mE h16.1 ((congrFun (X.2.a kfw (by decide)) _).symm.trans h32) ((congrFun (X.2.a kfw (by decide)) _).symm.trans h34)) (z_mOo h28.1 ((congrFun (X.2.a kfw (by decide)) _).symm.trans h36) ((congrFun (X.2.a kfw (by decide)) _).symm.trans h38)) (by omega)
    · skip
      intro M b2 b3 b4 b5 b6 o7 X hh0 hh1 hh2 hh3 hh4 hh5 hh6 hh7 hh8 hh9 hI hA hO hE
      have g0 := X.1.p2 k0
      refine z_xP zt153 29 54 [some (.ref a0), some (.int p1), some (.int b2), some (.int b3), some (.int b4), some (.int b5), some (.int b6), o7] [.int p1, .int b6] rfl rfl ?_
      refine z_xJ zt153 30 rfl rfl (fun (h1 : p1.toInt ≤ b6.toInt) => ?_) (fun (h1 : b6.toInt < p1.toInt) => ?_)
      · skip
        refine z_xN zt153 54 rfl rfl (fun (x2 : Int32) (h3 : x2.toInt = b3.toInt + 1) => ?_) (z_pAdd rfl rfl (by omega) (by omega))
        show z_ev d 153 106 [some (.ref a0), some (.int p1), some (.int b2), some (.int x2), some (.int b4), some (.int b5), some (.int b6), o7] [] M _
        refine z_xP zt153 55 11 [some (.ref a0), some (.int p1), some (.int b2), some (.int x2), some (.int b4), some (.int b5), some (.int b6), o7] [] rfl rfl ?_
        exact ih.2.1 M b2 x2 (some (.int b4)) (some (.int b5)) (some (.int b6)) (o7) X ⟨by omega, by omega⟩ ⟨by omega, by omega⟩ ⟨by omega, by omega⟩ (by omega) (by rw [show x2.toInt.toNat = b3.toInt.toNat + 1 from by omega]; exact z_l3j hI (by omega)) (by omega)
      refine z_xP zt153 31 62 [some (.ref a0), some (.int p1), some (.int b2), some (.int b3), some (.int b4), some (.int b5), some (.int b6), o7] [.ref a0, .int b5, .int b4] rfl rfl ?_
      refine z_xgR (κ := .inr (113, 0, 12, 0, 64 * ((z_bl q : Nat) : Int) - 1)) zt153 32 rfl zo153 zzf2_9 X k0 (by decide) (by decide) rfl (fun (a5 : Nat) h4 k6 => ?_)
      refine z_xP zt153 33 67 [some (.ref a0), some (.int p1), some (.int b2), some (.int b3), some (.int b4), some (.int b5), some (.int b6), o7] [.int b6, .ref a5, .int b5, .int b4] rfl rfl ?_
      refine z_xil zt153 34 rfl X k6 (by decide) (by omega) (by omega) (fun (x7 : Int32) h8 (h9 : 0 ≤ x7.toInt) (h10 : x7.toInt ≤ 64 * ((z_bl q : Nat) : Int) - 1) => ?_)
      refine z_xI zt153 35 rfl rfl (fun (x11 : Int32) (h12 : x11 = b5 &&& x7 ∧ 0 ≤ x11.toInt ∧ x11.toInt ≤ b5.toInt ∧ x11.toInt ≤ x7.toInt) => ?_) (⟨rfl, z_pAnd2 rfl rfl (by omega) (by omega)⟩)
      refine z_xI zt153 36 rfl rfl (fun (x13 : Int32) (h14 : x13 = b4 ||| x11 ∧ 0 ≤ x13.toInt ∧ x13.toInt < 64 * ((z_bl q : Nat) : Int)) => ?_) (⟨rfl, z_pOrB rfl rfl (by omega) (by omega) (by omega) (by omega) (by omega) (by omega)⟩)
      refine z_xP zt153 37 73 [some (.ref a0), some (.int p1), some (.int b2), some (.int b3), some (.int b4), some (.int b5), some (.int b6), some (.int x13)] [.ref a0] rfl rfl ?_
      refine z_xgR (κ := .inr (112, 1, z_bl q, 0, 0)) zt153 38 rfl zo153 zzf2_47 X k0 (by decide) (by decide) rfl (fun (a16 : Nat) h15 k17 => ?_)
      refine z_xP zt153 39 80 [some (.ref a0), some (.int p1), some (.int b2), some (.int b3), some (.int b4), some (.int b5), some (.int b6), some (.int x13)] [.int 6, .int x13, .ref a16] rfl rfl ?_
      refine z_xI zt153 40 rfl rfl (fun (x18 : Int32) (h19 : x18.toInt = x13.toInt / 64) => ?_) (z_pShr (c := 64) 6 rfl rfl (by decide))
      refine z_xllv zt153 41 rfl X k17 (by decide) (by omega) (by omega) (fun (y20 : Int64) h21 => ?_)
      refine z_xP zt153 42 86 [some (.ref a0), some (.int p1), some (.int b2), some (.int b3), some (.int b4), some (.int b5), some (.int b6), some (.int x13)] [.int 63, .int x13, .long y20] rfl rfl ?_
      refine z_xI zt153 43 rfl rfl (fun (x22 : Int32) (h23 : x22 = x13 &&& (63 : Int32) ∧ 0 ≤ x22.toInt ∧ x22.toInt ≤ x13.toInt ∧ x22.toInt ≤ 63) => ?_) (⟨rfl, z_pAnd2 rfl rfl (by omega) (by omega)⟩)
      refine z_xL zt153 44 rfl rfl (fun (y24 : Int64) (h25 : y24 = (y20.toUInt64 >>> (x22.toInt64.toUInt64 &&& Int64.toUInt64 63)).toInt64) => ?_) (rfl)
      refine z_xP zt153 45 89 [some (.ref a0), some (.int p1), some (.int b2), some (.int b3), some (.int b4), some (.int b5), some (.int b6), some (.int x13)] [.long 1, .long y24] rfl rfl ?_
      refine z_xL zt153 46 rfl rfl (fun (y26 : Int64) (h27 : y26 = y24 &&& 1) => ?_) (rfl)
      refine z_xP zt153 47 91 [some (.ref a0), some (.int p1), some (.int b2), some (.int b3), some (.int b4), some (.int b5), some (.int b6), some (.int x13)] [.long 0, .long y26] rfl rfl ?_
      refine z_xI zt153 48 rfl rfl (fun (x28 : Int32) (h29 : (x28.toInt < 0 ∧ y26.toInt < 0) ∨ (x28.toInt = 0 ∧ y26.toInt = 0) ∨ (0 < x28.toInt ∧ 0 < y26.toInt)) => ?_) (z_qCmp rfl rfl)
      refine z_xZ zt153 49 rfl rfl (fun (h30 : x28.toInt ≠ 0) => ?_) (fun (h30 : x28.toInt = 0) => ?_)
      · skip
        refine z_xN zt153 52 rfl rfl (fun (x31 : Int32) (h32 : x31.toInt = b6.toInt + 1) => ?_) (z_pAdd rfl rfl (by omega) (by omega))
        show z_ev d 153 100 [some (.ref a0), some (.int p1), some (.int b2), some (.int b3), some (.int b4), some (.int b5), some (.int x31), some (.int x13)] [] M _
        refine z_xP zt153 53 51 [some (.ref a0), some (.int p1), some (.int b2), some (.int b3), some (.int b4), some (.int b5), some (.int x31), some (.int x13)] [] rfl rfl ?_
        have ia33 := z_rfM h4 (X.2.f k0 (by decide) hfw)
        have h34 := h8
        rw [ia33] at h34
        have ib35 := z_rfM h15 (X.2.f k0 (by decide) hfb)
        have h36 := h21
        rw [ib35] at h36
        have ht37 := z_tpB ((congrFun (X.2.lg kfb (by decide)) _).symm.trans h36) (by omega) h19 h23.1 h25 h27
        have hs38 := z_mjE h12.1 h14.1 hA hO ((congrFun (X.2.a kfw (by decide)) _).symm.trans h34)
        rw [hs38] at ht37
        exact ih.2.2 M b2 b3 b4 b5 x31 (some (.int x13)) X ⟨by omega, by omega⟩ ⟨by omega, by omega⟩ ⟨by omega, by omega⟩ ⟨by omega, by omega⟩ ⟨by omega, by omega⟩ ⟨by omega, by omega⟩ (by omega) (by omega) (by omega) (by omega) (by rw [show x31.toInt.toNat = b6.toInt.toNat + 1 from by omega]; exact z_l3k hI (Classical.byContradiction fun hc => absurd (ht37.mpr hc) (by omega))) hA hO (by omega)
      refine z_xP zt153 50 96 [some (.ref a0), some (.int p1), some (.int b2), some (.int b3), some (.int b4), some (.int b5), some (.int b6), some (.int x13)] [.int 0] rfl rfl ?_
      have q0 : ((0 : Int32)).toInt = 0 := rfl
      have ia39 := z_rfM h4 (X.2.f k0 (by decide) hfw)
      have h40 := h8
      rw [ia39] at h40
      have ib41 := z_rfM h15 (X.2.f k0 (by decide) hfb)
      have h42 := h21
      rw [ib41] at h42
      have ht43 := z_tpB ((congrFun (X.2.lg kfb (by decide)) _).symm.trans h42) (by omega) h19 h23.1 h25 h27
      have hs44 := z_mjE h12.1 h14.1 hA hO ((congrFun (X.2.a kfw (by decide)) _).symm.trans h40)
      rw [hs44] at ht43
      have q0 : ((0 : Int32)).toInt = 0 := rfl
      exact z_xrz zt153 51 rfl zzr153 (by decide) (by decide) (kk 0 M X (by omega) (by omega) (Or.inr ⟨by omega, b2.toInt.toNat, b3.toInt.toNat, b6.toInt.toNat, by omega, by omega, by omega, (ht43.mp (by omega))⟩))
theorem zUC153 {T : List zK} {d : Nat} {K : Option Value → zH → Prop} {a0 : Nat} {q : Nat} {t : Nat} {m : Nat} {p1 : Int32} {fw fb : Nat} {M0 : zH} (hW : z_W M0 T) (k0 : T[a0]? = some (.inl (2, q, t, m, 0))) (u1 : (-2147483648) ≤ p1.toInt ∧ p1.toInt ≤ 12) (hfw : z_F M0 a0 13 = some (.ref fw)) (kfw : T[fw]? = some (.inr (113, 0, 12, 0, 64 * ((z_bl q : Nat) : Int) - 1))) (hfb : z_F M0 a0 12 = some (.ref fb)) (kfb : T[fb]? = some (.inr (112, 1, z_bl q, 0, 0))) (kk : ∀ (x : Int32) (M1 : zH), z_X T zw153 M0 M1 → 0 ≤ x.toInt → x.toInt ≤ 1 → z_thQ (z_Ar M0 fw) (z_Lg M0 fb) p1.toInt.toNat x.toInt → K (some (.int x)) M1) : z_ev d 153 0 [some (.ref a0), some (.int p1), none, none, none, none, none, none] [] M0 K := by
  have X : z_X T zw153 M0 M0 := .refl hW
  have g0 := X.1.p2 k0
  refine z_xP zt153 0 2 [some (.ref a0), some (.int p1), some (.int 0), none, none, none, none, none] [] rfl rfl ?_
  have q0 : ((0 : Int32)).toInt = 0 := rfl
  have q0 : ((0 : Int32)).toInt = 0 := rfl
  exact (zUB153 k0 u1 hfw kfw hfb kfb kk 109824).1 M0 (0) none none none none none X (by decide) z_l30 (by omega)
theorem zUB151 {T : List zK} {d : Nat} {K : Option Value → zH → Prop} {a0 : Nat} {q : Nat} {t : Nat} {m : Nat} {p1 : Int32} {fw : Nat} {M0 : zH} (k0 : T[a0]? = some (.inl (2, q, t, m, 0))) (u1 : (-2147483648) ≤ p1.toInt ∧ p1.toInt ≤ 12) (hfw : z_F M0 a0 13 = some (.ref fw)) (kfw : T[fw]? = some (.inr (113, 0, 12, 0, 64 * ((z_bl q : Nat) : Int) - 1))) (kk : ∀ (x : Int32) (M1 : zH), z_X T zw151 M0 M1 → 0 ≤ x.toInt → x.toInt ≤ 1 → z_foQ (z_Ar M0 fw) q p1.toInt.toNat x.toInt → K (some (.int x)) M1) : ∀ n : Nat, (∀ (M : zH) (b2 : Int32) (o3 : Option Value) (o4 : Option Value) (o5 : Option Value) (o6 : Option Value) (o7 : Option Value) (o8 : Option Value) (o9 : Option Value) (o10 : Option Value) (o11 : Option Value), z_X T zw151 M0 M → 0 ≤ b2.toInt ∧ b2.toInt ≤ 12 → z_l4 (z_fP (z_Ar M0 fw) q p1.toInt.toNat) p1.toInt.toNat b2.toInt.toNat 0 0 0 → ((((((((0) * 5 + 3) * 13 + (12 - b2.toInt)) * 5 + 4) * 12 + (0)) * 5 + 4) * 11 + (0)) * 5 + 4) * 10 + (0) < (n : Int) → z_ev (d + 1) 151 2 [some (.ref a0), some (.int p1), some (.int b2), o3, o4, o5, o6, o7, o8, o9, o10, o11] [] M K) ∧ (∀ (M : zH) (b2 : Int32) (b3 : Int32) (o4 : Option Value) (o5 : Option Value) (o6 : Option Value) (o7 : Option Value) (o8 : Option Value) (o9 : Option Value) (o10 : Option Value) (o11 : Option Value), z_X T zw151 M0 M → 1 ≤ p1.toInt ∧ p1.toInt ≤ 12 → 0 ≤ b2.toInt ∧ b2.toInt ≤ 11 → 1 ≤ b3.toInt ∧ b3.toInt ≤ 12 → b2.toInt < b3.toInt → z_l4 (z_fP (z_Ar M0 fw) q p1.toInt.toNat) p1.toInt.toNat b2.toInt.toNat b3.toInt.toNat 0 0 → ((((((((0) * 5 + 3) * 13 + (12 - b2.toInt)) * 5 + 2) * 12 + (12 - b3.toInt)) * 5 + 4) * 11 + (0)) * 5 + 4) * 10 + (0) < (n : Int) → z_ev (d + 1) 151 11 [some (.ref a0), some (.int p1), some (.int b2), some (.int b3), o4, o5, o6, o7, o8, o9, o10, o11] [] M K) ∧ (∀ (M : zH) (b2 : Int32) (b3 : Int32) (b4 : Int32) (b5 : Int32) (b6 : Int32) (o7 : Option Value) (o8 : Option Value) (o9 : Option Value) (o10 : Option Value) (o11 : Option Value), z_X T zw151 M0 M → 2 ≤ p1.toInt ∧ p1.toInt ≤ 12 → 0 ≤ b2.toInt ∧ b2.toInt ≤ 11 → 1 ≤ b3.toInt ∧ b3.toInt ≤ 11 → 0 ≤ b4.toInt ∧ b4.toInt ≤ 1023 → 0 ≤ b5.toInt ∧ b5.toInt ≤ 1023 → 2 ≤ b6.toInt ∧ b6.toInt ≤ 12 → b2.toInt < b3.toInt → b3.toInt < b6.toInt → z_l4 (z_fP (z_Ar M0 fw) q p1.toInt.toNat) p1.toInt.toNat b2.toInt.toNat b3.toInt.toNat b6.toInt.toNat 0 → b4 = z_Ar M0 fw b2.toInt.toNat &&& z_Ar M0 fw b3.toInt.toNat → b5 = z_Ar M0 fw b2.toInt.toNat ||| z_Ar M0 fw b3.toInt.toNat → ((((((((0) * 5 + 3) * 13 + (12 - b2.toInt)) * 5 + 2) * 12 + (12 - b3.toInt)) * 5 + 1) * 11 + (12 - b6.toInt)) * 5 + 4) * 10 + (0) < (n : Int) → z_ev (d + 1) 151 51 [some (.ref a0), some (.int p1), some (.int b2), some (.int b3), some (.int b4), some (.int b5), some (.int b6), o7, o8, o9, o10, o11] [] M K) ∧ (∀ (M : zH) (b2 : Int32) (b3 : Int32) (b4 : Int32) (b5 : Int32) (b6 : Int32) (b7 : Int32) (o8 : Option Value) (o9 : Option Value) (o10 : Option Value) (o11 : Option Value), z_X T zw151 M0 M → 3 ≤ p1.toInt ∧ p1.toInt ≤ 12 → 0 ≤ b2.toInt ∧ b2.toInt ≤ 11 → 1 ≤ b3.toInt ∧ b3.toInt ≤ 11 → 0 ≤ b4.toInt ∧ b4.toInt ≤ 1023 → 0 ≤ b5.toInt ∧ b5.toInt ≤ 1023 → 2 ≤ b6.toInt ∧ b6.toInt ≤ 11 → 3 ≤ b7.toInt ∧ b7.toInt ≤ 12 → b2.toInt < b3.toInt → b3.toInt < b6.toInt → b6.toInt < b7.toInt → z_l4 (z_fP (z_Ar M0 fw) q p1.toInt.toNat) p1.toInt.toNat b2.toInt.toNat b3.toInt.toNat b6.toInt.toNat b7.toInt.toNat → b4 = z_Ar M0 fw b2.toInt.toNat &&& z_Ar M0 fw b3.toInt.toNat → b5 = z_Ar M0 fw b2.toInt.toNat ||| z_Ar M0 fw b3.toInt.toNat → ((((((((0) * 5 + 3) * 13 + (12 - b2.toInt)) * 5 + 2) * 12 + (12 - b3.toInt)) * 5 + 1) * 11 + (12 - b6.toInt)) * 5 + 0) * 10 + (12 - b7.toInt) < (n : Int) → z_ev (d + 1) 151 63 [some (.ref a0), some (.int p1), some (.int b2), some (.int b3), some (.int b4), some (.int b5), some (.int b6), some (.int b7), o8, o9, o10, o11] [] M K) := by
  intro n
  induction n with
  | zero => exact ⟨(by intros; exfalso; omega), (by intros; exfalso; omega), (by intros; exfalso; omega), (by intros; exfalso; omega)⟩
  | succ n ih =>
    refine ⟨?_, ?_, ?_, ?_⟩
    · skip
      intro M b2 o3 o4 o5 o6 o7 o8 o9 o10 o11 X hh0 hI hE
      have g0 := X.1.p2 k0
      refine z_xP zt151 1 4 [some (.ref a0), some (.int p1), some (.int b2), o3, o4, o5, o6, o7, o8, o9, o10, o11] [.int p1, .int b2] rfl rfl ?_
      have h1 := z_b32 p1
      refine z_xJ zt151 2 rfl rfl (fun (h2 : p1.toInt ≤ b2.toInt) => ?_) (fun (h2 : b2.toInt < p1.toInt) => ?_)
      · skip
        refine z_xP zt151 82 175 [some (.ref a0), some (.int p1), some (.int b2), o3, o4, o5, o6, o7, o8, o9, o10, o11] [.int 1] rfl rfl ?_
        have q1 : ((1 : Int32)).toInt = 1 := rfl
        have q1 : ((1 : Int32)).toInt = 1 := rfl
        exact z_xrz zt151 83 rfl zzr151 (by decide) (by decide) (kk 1 M X (by omega) (by omega) (Or.inl ⟨by omega, z_l4E hI (by omega)⟩))
      refine z_xP zt151 3 9 [some (.ref a0), some (.int p1), some (.int b2), o3, o4, o5, o6, o7, o8, o9, o10, o11] [.int 1, .int b2] rfl rfl ?_
      refine z_xI zt151 4 rfl rfl (fun (x3 : Int32) (h4 : x3.toInt = b2.toInt + 1) => ?_) (z_pAdd rfl rfl (by omega) (by omega))
      refine z_xP zt151 5 11 [some (.ref a0), some (.int p1), some (.int b2), some (.int x3), o4, o5, o6, o7, o8, o9, o10, o11] [] rfl rfl ?_
      exact ih.2.1 M b2 x3 (o4) (o5) (o6) (o7) (o8) (o9) (o10) (o11) X ⟨by omega, by omega⟩ ⟨by omega, by omega⟩ ⟨by omega, by omega⟩ (by omega) (by rw [show x3.toInt.toNat = b2.toInt.toNat + 1 from by omega]; exact z_l4j0 hI) (by omega)
    · skip
      intro M b2 b3 o4 o5 o6 o7 o8 o9 o10 o11 X hh0 hh1 hh2 hh3 hI hE
      have g0 := X.1.p2 k0
      refine z_xP zt151 6 13 [some (.ref a0), some (.int p1), some (.int b2), some (.int b3), o4, o5, o6, o7, o8, o9, o10, o11] [.int p1, .int b3] rfl rfl ?_
      refine z_xJ zt151 7 rfl rfl (fun (h1 : p1.toInt ≤ b3.toInt) => ?_) (fun (h1 : b3.toInt < p1.toInt) => ?_)
      · skip
        refine z_xN zt151 80 rfl rfl (fun (x2 : Int32) (h3 : x2.toInt = b2.toInt + 1) => ?_) (z_pAdd rfl rfl (by omega) (by omega))
        show z_ev (d + 1) 151 171 [some (.ref a0), some (.int p1), some (.int x2), some (.int b3), o4, o5, o6, o7, o8, o9, o10, o11] [] M _
        refine z_xP zt151 81 2 [some (.ref a0), some (.int p1), some (.int x2), some (.int b3), o4, o5, o6, o7, o8, o9, o10, o11] [] rfl rfl ?_
        exact ih.1 M x2 (some (.int b3)) (o4) (o5) (o6) (o7) (o8) (o9) (o10) (o11) X ⟨by omega, by omega⟩ (by rw [show x2.toInt.toNat = b2.toInt.toNat + 1 from by omega]; exact z_l4i hI (by omega)) (by omega)
      refine z_xP zt151 8 17 [some (.ref a0), some (.int p1), some (.int b2), some (.int b3), o4, o5, o6, o7, o8, o9, o10, o11] [.ref a0] rfl rfl ?_
      refine z_xgR (κ := .inr (113, 0, 12, 0, 64 * ((z_bl q : Nat) : Int) - 1)) zt151 9 rfl zo151 zzf2_9 X k0 (by decide) (by decide) rfl (fun (a5 : Nat) h4 k6 => ?_)
      refine z_xP zt151 10 21 [some (.ref a0), some (.int p1), some (.int b2), some (.int b3), o4, o5, o6, o7, o8, o9, o10, o11] [.int b2, .ref a5] rfl rfl ?_
      refine z_xil zt151 11 rfl X k6 (by decide) (by omega) (by omega) (fun (x7 : Int32) h8 (h9 : 0 ≤ x7.toInt) (h10 : x7.toInt ≤ 64 * ((z_bl q : Nat) : Int) - 1) => ?_)
      refine z_xP zt151 12 23 [some (.ref a0), some (.int p1), some (.int b2), some (.int b3), o4, o5, o6, o7, o8, o9, o10, o11] [.ref a0, .int x7] rfl rfl ?_
      refine z_xgv zt151 13 rfl zo151 zzf2_9 X k0 (by decide) h4 ?_
      refine z_xP zt151 14 27 [some (.ref a0), some (.int p1), some (.int b2), some (.int b3), o4, o5, o6, o7, o8, o9, o10, o11] [.int b3, .ref a5, .int x7] rfl rfl ?_
      refine z_xil zt151 15 rfl X k6 (by decide) (by omega) (by omega) (fun (x11 : Int32) h12 (h13 : 0 ≤ x11.toInt) (h14 : x11.toInt ≤ 64 * ((z_bl q : Nat) : Int) - 1) => ?_)
      refine z_xI zt151 16 rfl rfl (fun (x15 : Int32) (h16 : x15 = x7 &&& x11 ∧ 0 ≤ x15.toInt ∧ x15.toInt ≤ x7.toInt ∧ x15.toInt ≤ x11.toInt) => ?_) (⟨rfl, z_pAnd2 rfl rfl (by omega) (by omega)⟩)
      refine z_xP zt151 17 32 [some (.ref a0), some (.int p1), some (.int b2), some (.int b3), some (.int x15), o5, o6, o7, o8, o9, o10, o11] [.ref a0] rfl rfl ?_
      refine z_xgv zt151 18 rfl zo151 zzf2_9 X k0 (by decide) h4 ?_
      refine z_xP zt151 19 36 [some (.ref a0), some (.int p1), some (.int b2), some (.int b3), some (.int x15), o5, o6, o7, o8, o9, o10, o11] [.int b2, .ref a5] rfl rfl ?_
      refine z_xil zt151 20 rfl X k6 (by decide) (by omega) (by omega) (fun (x17 : Int32) h18 (h19 : 0 ≤ x17.toInt) (h20 : x17.toInt ≤ 64 * ((z_bl q : Nat) : Int) - 1) => ?_)
      have h21 := congrArg Int32.toInt (h18.symm.trans h8)
      refine z_xP zt151 21 38 [some (.ref a0), some (.int p1), some (.int b2), some (.int b3), some (.int x15), o5, o6, o7, o8, o9, o10, o11] [.ref a0, .int x17] rfl rfl ?_
      refine z_xgv zt151 22 rfl zo151 zzf2_9 X k0 (by decide) h4 ?_
      refine z_xP zt151 23 42 [some (.ref a0), some (.int p1), some (.int b2), some (.int b3), some (.int x15), o5, o6, o7, o8, o9, o10, o11] [.int b3, .ref a5, .int x17] rfl rfl ?_
      refine z_xil zt151 24 rfl X k6 (by decide) (by omega) (by omega) (fun (x22 : Int32) h23 (h24 : 0 ≤ x22.toInt) (h25 : x22.toInt ≤ 64 * ((z_bl q : Nat) : Int) - 1) => ?_)
      have h26 := congrArg Int32.toInt (h23.symm.trans h12)
      refine z_xI zt151 25 rfl rfl (fun (x27 : Int32) (h28 : x27 = x17 ||| x22 ∧ 0 ≤ x27.toInt ∧ x27.toInt < 1024 ∧ x17.toInt ≤ x27.toInt ∧ x22.toInt ≤ x27.toInt) => ?_) (⟨rfl, z_pOr 10 rfl rfl (by omega) (by omega) (by decide) (by omega) (by omega) (by decide)⟩)
      refine z_xP zt151 26 48 [some (.ref a0), some (.int p1), some (.int b2), some (.int b3), some (.int x15), some (.int x27), o6, o7, o8, o9, o10, o11] [.int 1, .int b3] rfl rfl ?_
      refine z_xI zt151 27 rfl rfl (fun (x29 : Int32) (h30 : x29.toInt = b3.toInt + 1) => ?_) (z_pAdd rfl rfl (by omega) (by omega))
      refine z_xP zt151 28 51 [some (.ref a0), some (.int p1), some (.int b2), some (.int b3), some (.int x15), some (.int x27), some (.int x29), o7, o8, o9, o10, o11] [] rfl rfl ?_
      have ia31 := z_rfM h4 (X.2.f k0 (by decide) hfw)
      have h32 := h8
      rw [ia31] at h32
      have ia33 := z_rfM h4 (X.2.f k0 (by decide) hfw)
      have h34 := h12
      rw [ia33] at h34
      have ia35 := z_rfM h4 (X.2.f k0 (by decide) hfw)
      have h36 := h18
      rw [ia35] at h36
      have ia37 := z_rfM h4 (X.2.f k0 (by decide) hfw)
      have h38 := h23
      rw [ia37] at h38
      exact ih.2.2.1 M b2 b3 x15 x27 x29 (o7) (o8) (o9) (o10) (o11) X ⟨by omega, by omega⟩ ⟨by omega, by omega⟩ ⟨by omega, by omega⟩ ⟨by omega, by omega⟩ ⟨by omega, by omega⟩ ⟨by omega, by omega⟩ (by omega) (by omega) (by rw [show x29.toInt.toNat = b3.toInt.toNat + 1 from by omega]; exact z_l4k0 hI) (z_mE h16.1 ((congrFun (X.2.a kfw (by decide)) _).symm.trans h32) ((congrFun (X.2.a kfw (by decide)) _).symm.trans h34)) (z_mOo h28.1 ((congrFun (X.2.a kfw (by decide)) _).symm.trans h36) ((congrFun (X.2.a kfw (by decide)) _).symm.trans h38)) (by omega)
    · skip
      intro M b2 b3 b4 b5 b6 o7 o8 o9 o10 o11 X hh0 hh1 hh2 hh3 hh4 hh5 hh6 hh7 hI hA hO hE
      have g0 := X.1.p2 k0
      refine z_xP zt151 29 54 [some (.ref a0), some (.int p1), some (.int b2), some (.int b3), some (.int b4), some (.int b5), some (.int b6), o7, o8, o9, o10, o11] [.int p1, .int b6] rfl rfl ?_
      refine z_xJ zt151 30 rfl rfl (fun (h1 : p1.toInt ≤ b6.toInt) => ?_) (fun (h1 : b6.toInt < p1.toInt) => ?_)
      · skip
        refine z_xN zt151 78 rfl rfl (fun (x2 : Int32) (h3 : x2.toInt = b3.toInt + 1) => ?_) (z_pAdd rfl rfl (by omega) (by omega))
        show z_ev (d + 1) 151 165 [some (.ref a0), some (.int p1), some (.int b2), some (.int x2), some (.int b4), some (.int b5), some (.int b6), o7, o8, o9, o10, o11] [] M _
        refine z_xP zt151 79 11 [some (.ref a0), some (.int p1), some (.int b2), some (.int x2), some (.int b4), some (.int b5), some (.int b6), o7, o8, o9, o10, o11] [] rfl rfl ?_
        exact ih.2.1 M b2 x2 (some (.int b4)) (some (.int b5)) (some (.int b6)) (o7) (o8) (o9) (o10) (o11) X ⟨by omega, by omega⟩ ⟨by omega, by omega⟩ ⟨by omega, by omega⟩ (by omega) (by rw [show x2.toInt.toNat = b3.toInt.toNat + 1 from by omega]; exact z_l4j hI (by omega)) (by omega)
      refine z_xP zt151 31 60 [some (.ref a0), some (.int p1), some (.int b2), some (.int b3), some (.int b4), some (.int b5), some (.int b6), o7, o8, o9, o10, o11] [.int 1, .int b6] rfl rfl ?_
      refine z_xI zt151 32 rfl rfl (fun (x4 : Int32) (h5 : x4.toInt = b6.toInt + 1) => ?_) (z_pAdd rfl rfl (by omega) (by omega))
      refine z_xP zt151 33 63 [some (.ref a0), some (.int p1), some (.int b2), some (.int b3), some (.int b4), some (.int b5), some (.int b6), some (.int x4), o8, o9, o10, o11] [] rfl rfl ?_
      exact ih.2.2.2 M b2 b3 b4 b5 b6 x4 (o8) (o9) (o10) (o11) X ⟨by omega, by omega⟩ ⟨by omega, by omega⟩ ⟨by omega, by omega⟩ ⟨by omega, by omega⟩ ⟨by omega, by omega⟩ ⟨by omega, by omega⟩ ⟨by omega, by omega⟩ (by omega) (by omega) (by omega) (by rw [show x4.toInt.toNat = b6.toInt.toNat + 1 from by omega]; exact z_l4l0 hI) hA hO (by omega)
    · skip
      intro M b2 b3 b4 b5 b6 b7 o8 o9 o10 o11 X hh0 hh1 hh2 hh3 hh4 hh5 hh6 hh7 hh8 hh9 hI hA hO hE
      have g0 := X.1.p2 k0
      refine z_xP zt151 34 66 [some (.ref a0), some (.int p1), some (.int b2), some (.int b3), some (.int b4), some (.int b5), some (.int b6), some (.int b7), o8, o9, o10, o11] [.int p1, .int b7] rfl rfl ?_
      refine z_xJ zt151 35 rfl rfl (fun (h1 : p1.toInt ≤ b7.toInt) => ?_) (fun (h1 : b7.toInt < p1.toInt) => ?_)
      · skip
        refine z_xN zt151 76 rfl rfl (fun (x2 : Int32) (h3 : x2.toInt = b6.toInt + 1) => ?_) (z_pAdd rfl rfl (by omega) (by omega))
        show z_ev (d + 1) 151 159 [some (.ref a0), some (.int p1), some (.int b2), some (.int b3), some (.int b4), some (.int b5), some (.int x2), some (.int b7), o8, o9, o10, o11] [] M _
        refine z_xP zt151 77 51 [some (.ref a0), some (.int p1), some (.int b2), some (.int b3), some (.int b4), some (.int b5), some (.int x2), some (.int b7), o8, o9, o10, o11] [] rfl rfl ?_
        exact ih.2.2.1 M b2 b3 b4 b5 x2 (some (.int b7)) (o8) (o9) (o10) (o11) X ⟨by omega, by omega⟩ ⟨by omega, by omega⟩ ⟨by omega, by omega⟩ ⟨by omega, by omega⟩ ⟨by omega, by omega⟩ ⟨by omega, by omega⟩ (by omega) (by omega) (by rw [show x2.toInt.toNat = b6.toInt.toNat + 1 from by omega]; exact z_l4k hI (by omega)) hA hO (by omega)
      refine z_xP zt151 36 70 [some (.ref a0), some (.int p1), some (.int b2), some (.int b3), some (.int b4), some (.int b5), some (.int b6), some (.int b7), o8, o9, o10, o11] [.ref a0] rfl rfl ?_
      refine z_xgR (κ := .inr (113, 0, 12, 0, 64 * ((z_bl q : Nat) : Int) - 1)) zt151 37 rfl zo151 zzf2_9 X k0 (by decide) (by decide) rfl (fun (a5 : Nat) h4 k6 => ?_)
      refine z_xP zt151 38 75 [some (.ref a0), some (.int p1), some (.int b2), some (.int b3), some (.int b4), some (.int b5), some (.int b6), some (.int b7), o8, o9, o10, o11] [.int b6, .ref a5] rfl rfl ?_
      refine z_xil zt151 39 rfl X k6 (by decide) (by omega) (by omega) (fun (x7 : Int32) h8 (h9 : 0 ≤ x7.toInt) (h10 : x7.toInt ≤ 64 * ((z_bl q : Nat) : Int) - 1) => ?_)
      refine z_xP zt151 40 77 [some (.ref a0), some (.int p1), some (.int b2), some (.int b3), some (.int b4), some (.int b5), some (.int b6), some (.int b7), o8, o9, o10, o11] [.ref a0, .int x7] rfl rfl ?_
      refine z_xgv zt151 41 rfl zo151 zzf2_9 X k0 (by decide) h4 ?_
      refine z_xP zt151 42 82 [some (.ref a0), some (.int p1), some (.int b2), some (.int b3), some (.int b4), some (.int b5), some (.int b6), some (.int b7), o8, o9, o10, o11] [.int b7, .ref a5, .int x7] rfl rfl ?_
      refine z_xil zt151 43 rfl X k6 (by decide) (by omega) (by omega) (fun (x11 : Int32) h12 (h13 : 0 ≤ x11.toInt) (h14 : x11.toInt ≤ 64 * ((z_bl q : Nat) : Int) - 1) => ?_)
      refine z_xI zt151 44 rfl rfl (fun (x15 : Int32) (h16 : x15 = x7 &&& x11 ∧ 0 ≤ x15.toInt ∧ x15.toInt ≤ x7.toInt ∧ x15.toInt ≤ x11.toInt) => ?_) (⟨rfl, z_pAnd2 rfl rfl (by omega) (by omega)⟩)
      refine z_xP zt151 45 87 [some (.ref a0), some (.int p1), some (.int b2), some (.int b3), some (.int b4), some (.int b5), some (.int b6), some (.int b7), some (.int x15), o9, o10, o11] [.ref a0] rfl rfl ?_
      refine z_xgv zt151 46 rfl zo151 zzf2_9 X k0 (by decide) h4 ?_
      refine z_xP zt151 47 92 [some (.ref a0), some (.int p1), some (.int b2), some (.int b3), some (.int b4), some (.int b5), some (.int b6), some (.int b7), some (.int x15), o9, o10, o11] [.int b6, .ref a5] rfl rfl ?_
      refine z_xil zt151 48 rfl X k6 (by decide) (by omega) (by omega) (fun (x17 : Int32) h18 (h19 : 0 ≤ x17.toInt) (h20 : x17.toInt ≤ 64 * ((z_bl q : Nat) : Int) - 1) => ?_)
      have h21 := congrArg Int32.toInt (h18.symm.trans h8)
      refine z_xP zt151 49 94 [some (.ref a0), some (.int p1), some (.int b2), some (.int b3), some (.int b4), some (.int b5), some (.int b6), some (.int b7), some (.int x15), o9, o10, o11] [.ref a0, .int x17] rfl rfl ?_
      refine z_xgv zt151 50 rfl zo151 zzf2_9 X k0 (by decide) h4 ?_
      refine z_xP zt151 51 99 [some (.ref a0), some (.int p1), some (.int b2), some (.int b3), some (.int b4), some (.int b5), some (.int b6), some (.int b7), some (.int x15), o9, o10, o11] [.int b7, .ref a5, .int x17] rfl rfl ?_
      refine z_xil zt151 52 rfl X k6 (by decide) (by omega) (by omega) (fun (x22 : Int32) h23 (h24 : 0 ≤ x22.toInt) (h25 : x22.toInt ≤ 64 * ((z_bl q : Nat) : Int) - 1) => ?_)
      have h26 := congrArg Int32.toInt (h23.symm.trans h12)
      refine z_xI zt151 53 rfl rfl (fun (x27 : Int32) (h28 : x27 = x17 ||| x22 ∧ 0 ≤ x27.toInt ∧ x27.toInt < 1024 ∧ x17.toInt ≤ x27.toInt ∧ x22.toInt ≤ x27.toInt) => ?_) (⟨rfl, z_pOr 10 rfl rfl (by omega) (by omega) (by decide) (by omega) (by omega) (by decide)⟩)
      refine z_xP zt151 54 107 [some (.ref a0), some (.int p1), some (.int b2), some (.int b3), some (.int b4), some (.int b5), some (.int b6), some (.int b7), some (.int x15), some (.int x27), o10, o11] [.int x27, .int b4] rfl rfl ?_
      refine z_xI zt151 55 rfl rfl (fun (x29 : Int32) (h30 : x29 = b4 &&& x27 ∧ 0 ≤ x29.toInt ∧ x29.toInt ≤ b4.toInt ∧ x29.toInt ≤ x27.toInt) => ?_) (⟨rfl, z_pAnd2 rfl rfl (by omega) (by omega)⟩)
      refine z_xP zt151 56 112 [some (.ref a0), some (.int p1), some (.int b2), some (.int b3), some (.int b4), some (.int b5), some (.int b6), some (.int b7), some (.int x15), some (.int x27), o10, o11] [.int x15, .int b5, .int x29] rfl rfl ?_
      refine z_xI zt151 57 rfl rfl (fun (x31 : Int32) (h32 : x31 = b5 &&& x15 ∧ 0 ≤ x31.toInt ∧ x31.toInt ≤ b5.toInt ∧ x31.toInt ≤ x15.toInt) => ?_) (⟨rfl, z_pAnd2 rfl rfl (by omega) (by omega)⟩)
      refine z_xI zt151 58 rfl rfl (fun (x33 : Int32) (h34 : x33 = x29 ||| x31 ∧ 0 ≤ x33.toInt ∧ x33.toInt < 1024 ∧ x29.toInt ≤ x33.toInt ∧ x31.toInt ≤ x33.toInt) => ?_) (⟨rfl, z_pOr 10 rfl rfl (by omega) (by omega) (by decide) (by omega) (by omega) (by decide)⟩)
      refine z_xP zt151 59 120 [some (.ref a0), some (.int p1), some (.int b2), some (.int b3), some (.int b4), some (.int b5), some (.int b6), some (.int b7), some (.int x15), some (.int x27), some (.int x33), o11] [.int x15, .int b4] rfl rfl ?_
      refine z_xI zt151 60 rfl rfl (fun (x35 : Int32) (h36 : x35 = b4 ||| x15 ∧ 0 ≤ x35.toInt ∧ x35.toInt < 1024 ∧ b4.toInt ≤ x35.toInt ∧ x15.toInt ≤ x35.toInt) => ?_) (⟨rfl, z_pOr 10 rfl rfl (by omega) (by omega) (by decide) (by omega) (by omega) (by decide)⟩)
      refine z_xP zt151 61 125 [some (.ref a0), some (.int p1), some (.int b2), some (.int b3), some (.int b4), some (.int b5), some (.int b6), some (.int b7), some (.int x15), some (.int x27), some (.int x33), o11] [.int x27, .int b5, .int x35] rfl rfl ?_
      refine z_xI zt151 62 rfl rfl (fun (x37 : Int32) (h38 : x37 = b5 &&& x27 ∧ 0 ≤ x37.toInt ∧ x37.toInt ≤ b5.toInt ∧ x37.toInt ≤ x27.toInt) => ?_) (⟨rfl, z_pAnd2 rfl rfl (by omega) (by omega)⟩)
      refine z_xI zt151 63 rfl rfl (fun (x39 : Int32) (h40 : x39 = x35 ||| x37 ∧ 0 ≤ x39.toInt ∧ x39.toInt < 1024 ∧ x35.toInt ≤ x39.toInt ∧ x37.toInt ≤ x39.toInt) => ?_) (⟨rfl, z_pOr 10 rfl rfl (by omega) (by omega) (by decide) (by omega) (by omega) (by decide)⟩)
      refine z_xP zt151 64 133 [some (.ref a0), some (.int p1), some (.int b2), some (.int b3), some (.int b4), some (.int b5), some (.int b6), some (.int b7), some (.int x15), some (.int x27), some (.int x33), some (.int x39)] [.ref a0, .int x33, .ref a0] rfl rfl ?_
      refine z_xgI zt151 65 rfl zo151 zzf2_32 X k0 (by decide) (by decide) rfl (fun (x42 : Int32) h41 (h43 : ((z_po q : Nat) : Int) - 1 ≤ x42.toInt) (h44 : x42.toInt ≤ ((z_po q : Nat) : Int) - 1) => ?_)
      refine z_xP zt151 66 139 [some (.ref a0), some (.int p1), some (.int b2), some (.int b3), some (.int b4), some (.int b5), some (.int b6), some (.int b7), some (.int x15), some (.int x27), some (.int x33), some (.int x39)] [.int (-1), .int x39, .int x42, .int x33, .ref a0] rfl rfl ?_
      refine z_xI zt151 67 rfl rfl (fun (x45 : Int32) (h46 : x45 = x39 ^^^ ((-1) : Int32)) => ?_) (rfl)
      refine z_xI zt151 68 rfl rfl (fun (x47 : Int32) (h48 : x47 = x42 &&& x45 ∧ 0 ≤ x47.toInt ∧ x47.toInt ≤ x42.toInt) => ?_) (⟨rfl, z_pAndL rfl (by omega)⟩)
      refine z_xP zt151 69 142 [some (.ref a0), some (.int p1), some (.int b2), some (.int b3), some (.int b4), some (.int b5), some (.int b6), some (.int b7), some (.int x15), some (.int x27), some (.int x33), some (.int x39)] [.int p1, .int x47, .int x33, .ref a0] rfl rfl ?_
      refine z_xcV (vs := [.ref a0, .int x33, .int x47, .int p1]) (r := []) (L2 := [some (.ref a0), some (.int x33), some (.int x47), some (.int p1), none]) zt151 70 rfl zo151 zzcV2_119 (Or.inl rfl) rfl X k0 rfl rfl rfl (Nat.le_of_ble_eq_true rfl) zzm152 (Nat.le_of_ble_eq_true rfl) rfl ?_
      refine zUC152 X.1 k0 (by omega) (by omega) (by omega) (X.2.f k0 (by decide) hfw) kfw (fun x52 M49 X50 h53 h54 h51 => ?_)
      have X55 := X.go X50 (z_sb (by decide))
      show z_ev (d + 1) 151 145 [some (.ref a0), some (.int p1), some (.int b2), some (.int b3), some (.int b4), some (.int b5), some (.int b6), some (.int b7), some (.int x15), some (.int x27), some (.int x33), some (.int x39)] [.int x52] M49 _
      refine z_xZ zt151 71 rfl rfl (fun (h57 : x52.toInt ≠ 0) => ?_) (fun (h57 : x52.toInt = 0) => ?_)
      · skip
        refine z_xN zt151 74 rfl rfl (fun (x58 : Int32) (h59 : x58.toInt = b7.toInt + 1) => ?_) (z_pAdd rfl rfl (by omega) (by omega))
        show z_ev (d + 1) 151 153 [some (.ref a0), some (.int p1), some (.int b2), some (.int b3), some (.int b4), some (.int b5), some (.int b6), some (.int x58), some (.int x15), some (.int x27), some (.int x33), some (.int x39)] [] M49 _
        refine z_xP zt151 75 63 [some (.ref a0), some (.int p1), some (.int b2), some (.int b3), some (.int b4), some (.int b5), some (.int b6), some (.int x58), some (.int x15), some (.int x27), some (.int x33), some (.int x39)] [] rfl rfl ?_
        have h60 := (X50.2.f k0 (by decide) h4)
        have ia61 := z_rfM h60 (X55.2.f k0 (by decide) hfw)
        have h62 := h8
        rw [ia61] at h62
        have ia63 := z_rfM h60 (X55.2.f k0 (by decide) hfw)
        have h64 := h12
        rw [ia63] at h64
        have ia65 := z_rfM h60 (X55.2.f k0 (by decide) hfw)
        have h66 := h18
        rw [ia65] at h66
        have ia67 := z_rfM h60 (X55.2.f k0 (by decide) hfw)
        have h68 := h23
        rw [ia67] at h68
        rw [X.2.a kfw (by decide)] at h51
        have ht69 := z_foE (q := q) (by omega) hA hO (z_mE h16.1 ((congrFun (X.2.a kfw (by decide)) _).symm.trans h62) ((congrFun (X.2.a kfw (by decide)) _).symm.trans h64)) (z_mOo h28.1 ((congrFun (X.2.a kfw (by decide)) _).symm.trans h66) ((congrFun (X.2.a kfw (by decide)) _).symm.trans h68)) h30.1 h32.1 h34.1 h36.1 h38.1 h40.1 h46 h48.1
        exact ih.2.2.2 M49 b2 b3 b4 b5 b6 x58 (some (.int x15)) (some (.int x27)) (some (.int x33)) (some (.int x39)) X55 ⟨by omega, by omega⟩ ⟨by omega, by omega⟩ ⟨by omega, by omega⟩ ⟨by omega, by omega⟩ ⟨by omega, by omega⟩ ⟨by omega, by omega⟩ ⟨by omega, by omega⟩ (by omega) (by omega) (by omega) (by rw [show x58.toInt.toNat = b7.toInt.toNat + 1 from by omega]; exact z_l4l hI (z_foY ht69 h51 (by omega))) hA hO (by omega)
      refine z_xP zt151 72 149 [some (.ref a0), some (.int p1), some (.int b2), some (.int b3), some (.int b4), some (.int b5), some (.int b6), some (.int b7), some (.int x15), some (.int x27), some (.int x33), some (.int x39)] [.int 0] rfl rfl ?_
      have q0 : ((0 : Int32)).toInt = 0 := rfl
      have h70 := (X50.2.f k0 (by decide) h4)
      have ia71 := z_rfM h70 (X55.2.f k0 (by decide) hfw)
      have h72 := h8
      rw [ia71] at h72
      have ia73 := z_rfM h70 (X55.2.f k0 (by decide) hfw)
      have h74 := h12
      rw [ia73] at h74
      have ia75 := z_rfM h70 (X55.2.f k0 (by decide) hfw)
      have h76 := h18
      rw [ia75] at h76
      have ia77 := z_rfM h70 (X55.2.f k0 (by decide) hfw)
      have h78 := h23
      rw [ia77] at h78
      rw [X.2.a kfw (by decide)] at h51
      have ht79 := z_foE (q := q) (by omega) hA hO (z_mE h16.1 ((congrFun (X.2.a kfw (by decide)) _).symm.trans h72) ((congrFun (X.2.a kfw (by decide)) _).symm.trans h74)) (z_mOo h28.1 ((congrFun (X.2.a kfw (by decide)) _).symm.trans h76) ((congrFun (X.2.a kfw (by decide)) _).symm.trans h78)) h30.1 h32.1 h34.1 h36.1 h38.1 h40.1 h46 h48.1
      have q0 : ((0 : Int32)).toInt = 0 := rfl
      exact z_xrz zt151 73 rfl zzr151 (by decide) (by decide) (kk 0 M49 X55 (by omega) (by omega) (Or.inr ⟨by omega, b2.toInt.toNat, b3.toInt.toNat, b6.toInt.toNat, b7.toInt.toNat, by omega, by omega, by omega, by omega, (z_foN ht79 h51 (by omega))⟩))
theorem zUC151 {T : List zK} {d : Nat} {K : Option Value → zH → Prop} {a0 : Nat} {q : Nat} {t : Nat} {m : Nat} {p1 : Int32} {fw : Nat} {M0 : zH} (hW : z_W M0 T) (k0 : T[a0]? = some (.inl (2, q, t, m, 0))) (u1 : (-2147483648) ≤ p1.toInt ∧ p1.toInt ≤ 12) (hfw : z_F M0 a0 13 = some (.ref fw)) (kfw : T[fw]? = some (.inr (113, 0, 12, 0, 64 * ((z_bl q : Nat) : Int) - 1))) (kk : ∀ (x : Int32) (M1 : zH), z_X T zw151 M0 M1 → 0 ≤ x.toInt → x.toInt ≤ 1 → z_foQ (z_Ar M0 fw) q p1.toInt.toNat x.toInt → K (some (.int x)) M1) : z_ev (d + 1) 151 0 [some (.ref a0), some (.int p1), none, none, none, none, none, none, none, none, none, none] [] M0 K := by
  have X : z_X T zw151 M0 M0 := .refl hW
  have g0 := X.1.p2 k0
  refine z_xP zt151 0 2 [some (.ref a0), some (.int p1), some (.int 0), none, none, none, none, none, none, none, none, none] [] rfl rfl ?_
  have q0 : ((0 : Int32)).toInt = 0 := rfl
  have q0 : ((0 : Int32)).toInt = 0 := rfl
  exact (zUB151 k0 u1 hfw kfw kk 10725000).1 M0 (0) none none none none none none none none none X (by decide) z_l40 (by omega)
