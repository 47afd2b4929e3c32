/-! broken of both sides -/
theorem z_kpL {M M0 : zH} {a0 a14 kp i j : Nat} {y : Int64} (h13 : z_F M a0 8 = some (.ref a14)) (h8 : z_F M a0 8 = some (.ref kp)) (hl : z_Lg M a14 i = y) (e : i = j) (ek : z_Lg M kp = z_Lg M0 kp) : z_Lg M0 kp j = y := by
  rw [h13] at h8
  cases h8
  rw [← ek, ← e]
  exact hl
theorem z_2q1T : ∀ q, q < 11 → ((1 : Int32) <<< ((Int32.ofNat q) &&& 31)).toInt = ((2 ^ q : Nat) : Int) := by decide +kernel
theorem z_2q1 {x c : Int32} (h0 : 0 ≤ x.toInt) (h1 : x.toInt ≤ 10) (hc : c = (1 : Int32) <<< (x &&& 31)) : c.toInt = ((2 ^ x.toInt.toNat : Nat) : Int) := by
  have e : x = Int32.ofNat x.toInt.toNat := z_of32 (by omega) (by omega)
  have hT := z_2q1T x.toInt.toNat (by omega)
  rw [← e, ← hc] at hT
  exact hT
theorem z_R6.at {T : List zK} {M : zH} (h6 : z_R6 T M) {A p : Int32} (hA : z_F M 4 3 = some (.int A)) (h0 : 0 ≤ p.toInt) (hp : p.toInt < A.toInt) {b N q t m : Nat} (ho : z_O M 10 p.toNatClampNeg = some b) (kb : T[b]? = some (.inl (3, q, t, m, 9))) (hf : z_F M b 0 = some (.ref N)) : ∃ (pr en : Nat) (B : Nat → Nat), z_AB T M p.toNatClampNeg b N q t m pr en B := by
  have ex : (p.toNatClampNeg : Int) = p.toInt := by unfold Int32.toNatClampNeg; omega
  obtain ⟨b', N', q', t', m', pr, en, B, hAB⟩ := h6 A hA p.toNatClampNeg (by omega)
  have ob' := hAB.1
  have kb' := hAB.2.1
  have fb' := hAB.2.2.1
  obtain rfl : b = b' := Option.some.inj (ho.symm.trans ob')
  rw [kb] at kb'
  cases kb'
  obtain rfl : N = N' := by rw [hf] at fb'; cases fb'; rfl
  exact ⟨pr, en, B, hAB⟩
theorem zUB41 {T : List zK} {d : Nat} {K : Option Value → zH → Prop} {a0 : Nat} {q : Nat} {t : Nat} {m : Nat} {p1 : Int32} {p2 : Int32} {w : Int64} {uy un : Nat} {M0 : zH} (k0 : T[a0]? = some (.inl (2, q, t, m, 0))) (u2 : 0 ≤ p2.toInt ∧ p2.toInt ≤ 15) (hb0 : p2.toInt < ((z_bl q : Nat) : Int)) (hw7 : z_F M0 a0 7 = some (.long w)) (hw : z_whb q w) (hd : p1.toInt = (uy : Int) + 1024 * (un : Int) ∧ uy < 1024 ∧ un < 1024) (hc2 : ∀ k, k < 6 → z_Lg M0 2 k = z_ty2.getD k 0) (kk : ∀ (x : Int64) (M1 : zH), z_X T zw41 M0 M1 → z_hw q uy un p2.toInt.toNat x → K (some (.long x)) M1) : ∀ n : Nat, (∀ (M : zH) (b3 : Int32) (b4 : Int32) (b5 : Int32) (b6 : Int64) (b8 : Int32), z_X T zw41 M0 M → 0 ≤ b3.toInt ∧ b3.toInt ≤ 1023 → (-2097152) ≤ b4.toInt ∧ b4.toInt ≤ 2097151 → 0 ≤ b5.toInt ∧ b5.toInt ≤ 960 → 0 ≤ b8.toInt ∧ b8.toInt ≤ 6 → b3.toInt = (uy : Int) → b4.toInt = (un : Int) → z_bcd uy un p2.toInt.toNat → z_svw w b3.toInt.toNat b4.toInt.toNat b8.toInt.toNat b6 → ((0) * 2 + 0) * 7 + (6 - b8.toInt) < (n : Int) → z_ev d 41 49 [some (.ref a0), some (.int p1), some (.int p2), some (.int b3), some (.int b4), some (.int b5), some (.long b6), none, some (.int b8)] [] M K) := by
  intro n
  induction n with
  | zero => exact by intros; exfalso; omega
  | succ n ih =>
    intro M b3 b4 b5 b6 b8 X hh0 hh1 hh2 hh3 hh4 hh5 hC hI hE
    have g0 := X.1.p2 k0
    refine z_xP zt41 20 51 [some (.ref a0), some (.int p1), some (.int p2), some (.int b3), some (.int b4), some (.int b5), some (.long b6), none, some (.int b8)] [.int b8] rfl rfl ?_
    refine z_xgs zt41 21 rfl zo41 zg2_97 ?_
    have f2 : T[2]? = some (.inr (2, 1, 6, 0, 0)) := X.1.k rfl (by decide)
    refine z_xln zt41 22 rfl X f2 (by decide) (by decide) (fun (x1 : Int32) (h2 : x1.toInt = ((6 : Nat) : Int)) => ?_)
    refine z_xJ zt41 23 rfl rfl (fun (h3 : x1.toInt ≤ b8.toInt) => ?_) (fun (h3 : b8.toInt < x1.toInt) => ?_)
    · skip
      refine z_xP zt41 50 111 [some (.ref a0), some (.int p1), some (.int p2), some (.int b3), some (.int b4), some (.int b5), some (.long b6), none, some (.int b8)] [.long b6] rfl rfl ?_
      have e3 : b3.toInt.toNat = uy := by omega
      have e4 : b4.toInt.toNat = un := by omega
      rw [e3, e4] at hI
      exact z_xrl zt41 51 rfl zzr41 (kk b6 M X (z_hwE (x := b8.toInt.toNat) hI (by omega) (by omega) hw hC))
    refine z_xP zt41 24 61 [some (.ref a0), some (.int p1), some (.int p2), some (.int b3), some (.int b4), some (.int b5), some (.long b6), none, some (.int b8)] [.int b8, .int b3] rfl rfl ?_
    refine z_xI zt41 25 rfl rfl (fun (x4 : Int32) (h5 : x4 = b3 >>> (b8 &&& 31)) => ?_) (rfl)
    refine z_xP zt41 26 63 [some (.ref a0), some (.int p1), some (.int p2), some (.int b3), some (.int b4), some (.int b5), some (.long b6), none, some (.int b8)] [.int 1, .int x4] rfl rfl ?_
    refine z_xI zt41 27 rfl rfl (fun (x6 : Int32) (h7 : x6 = x4 &&& (1 : Int32)) => ?_) (rfl)
    refine z_xZ zt41 28 rfl rfl (fun (h8 : x6.toInt = 0) => ?_) (fun (h8 : x6.toInt ≠ 0) => ?_)
    · skip
      refine z_xP zt41 35 82 [some (.ref a0), some (.int p1), some (.int p2), some (.int b3), some (.int b4), some (.int b5), some (.long b6), none, some (.int b8)] [.int b8, .int b4] rfl rfl ?_
      refine z_xI zt41 36 rfl rfl (fun (x9 : Int32) (h10 : x9 = b4 >>> (b8 &&& 31)) => ?_) (rfl)
      refine z_xP zt41 37 84 [some (.ref a0), some (.int p1), some (.int p2), some (.int b3), some (.int b4), some (.int b5), some (.long b6), none, some (.int b8)] [.int 1, .int x9] rfl rfl ?_
      refine z_xI zt41 38 rfl rfl (fun (x11 : Int32) (h12 : x11 = x9 &&& (1 : Int32)) => ?_) (rfl)
      refine z_xZ zt41 39 rfl rfl (fun (h13 : x11.toInt = 0) => ?_) (fun (h13 : x11.toInt ≠ 0) => ?_)
      · skip
        refine z_xN zt41 48 rfl rfl (fun (x14 : Int32) (h15 : x14.toInt = b8.toInt + 1) => ?_) (z_pAdd rfl rfl (by omega) (by omega))
        show z_ev d 41 106 [some (.ref a0), some (.int p1), some (.int p2), some (.int b3), some (.int b4), some (.int b5), some (.long b6), none, some (.int x14)] [] M _
        refine z_xP zt41 49 49 [some (.ref a0), some (.int p1), some (.int p2), some (.int b3), some (.int b4), some (.int b5), some (.long b6), none, some (.int x14)] [] rfl rfl ?_
        have i16 : x14.toInt.toNat = b8.toInt.toNat + 1 := by omega
        exact ih M b3 b4 b5 b6 x14 X ⟨by omega, by omega⟩ ⟨by omega, by omega⟩ ⟨by omega, by omega⟩ ⟨by omega, by omega⟩ (by omega) (by omega) hC (by rw [i16]; exact (z_svn0 (z_svy0 hI (z_sbit h5 h7 (by omega) ⟨by omega, by omega⟩) (by omega)) (z_sbit h10 h12 (by omega) ⟨by omega, by omega⟩) (by omega))) (by omega)
      refine z_xP zt41 40 90 [some (.ref a0), some (.int p1), some (.int p2), some (.int b3), some (.int b4), some (.int b5), some (.long b6), none, some (.int b8)] [.long b6] rfl rfl ?_
      refine z_xgs zt41 41 rfl zo41 zg2_97 ?_
      refine z_xP zt41 42 95 [some (.ref a0), some (.int p1), some (.int p2), some (.int b3), some (.int b4), some (.int b5), some (.long b6), none, some (.int b8)] [.int b8, .ref 2, .long b6] rfl rfl ?_
      refine z_xllv zt41 43 rfl X f2 (by decide) (by omega) (by omega) (fun (y17 : Int64) h18 => ?_)
      refine z_xl2 zt41 44 rfl zo41 zkl2_38 ?_
      refine z_xL zt41 45 rfl rfl (fun (y19 : Int64) (h20 : y19 = y17 ^^^ (-1)) => ?_) (rfl)
      refine z_xL zt41 46 rfl rfl (fun (y21 : Int64) (h22 : y21 = b6 &&& y19) => ?_) (rfl)
      refine z_xP zt41 47 103 [some (.ref a0), some (.int p1), some (.int p2), some (.int b3), some (.int b4), some (.int b5), some (.long y21), none, some (.int b8)] [] rfl rfl ?_
      refine z_xN zt41 48 rfl rfl (fun (x23 : Int32) (h24 : x23.toInt = b8.toInt + 1) => ?_) (z_pAdd rfl rfl (by omega) (by omega))
      show z_ev d 41 106 [some (.ref a0), some (.int p1), some (.int p2), some (.int b3), some (.int b4), some (.int b5), some (.long y21), none, some (.int x23)] [] M _
      refine z_xP zt41 49 49 [some (.ref a0), some (.int p1), some (.int p2), some (.int b3), some (.int b4), some (.int b5), some (.long y21), none, some (.int x23)] [] rfl rfl ?_
      have i25 : x23.toInt.toNat = b8.toInt.toNat + 1 := by omega
      exact ih M b3 b4 b5 y21 x23 X ⟨by omega, by omega⟩ ⟨by omega, by omega⟩ ⟨by omega, by omega⟩ ⟨by omega, by omega⟩ (by omega) (by omega) hC (by rw [i25]; exact (z_svn1 (z_svy0 hI (z_sbit h5 h7 (by omega) ⟨by omega, by omega⟩) (by omega)) (z_sbit h10 h12 (by omega) ⟨by omega, by omega⟩) (by omega) (by omega) (h18.symm.trans ((congrFun (X.2.lg f2 (by decide)) _).trans (hc2 b8.toInt.toNat (by omega)))) h20 h22)) (by omega)
    refine z_xP zt41 29 69 [some (.ref a0), some (.int p1), some (.int p2), some (.int b3), some (.int b4), some (.int b5), some (.long b6), none, some (.int b8)] [.long b6] rfl rfl ?_
    refine z_xgs zt41 30 rfl zo41 zg2_97 ?_
    refine z_xP zt41 31 74 [some (.ref a0), some (.int p1), some (.int p2), some (.int b3), some (.int b4), some (.int b5), some (.long b6), none, some (.int b8)] [.int b8, .ref 2, .long b6] rfl rfl ?_
    refine z_xllv zt41 32 rfl X f2 (by decide) (by omega) (by omega) (fun (y26 : Int64) h27 => ?_)
    refine z_xL zt41 33 rfl rfl (fun (y28 : Int64) (h29 : y28 = b6 &&& y26) => ?_) (rfl)
    refine z_xP zt41 34 78 [some (.ref a0), some (.int p1), some (.int p2), some (.int b3), some (.int b4), some (.int b5), some (.long y28), none, some (.int b8)] [] rfl rfl ?_
    refine z_xP zt41 35 82 [some (.ref a0), some (.int p1), some (.int p2), some (.int b3), some (.int b4), some (.int b5), some (.long y28), none, some (.int b8)] [.int b8, .int b4] rfl rfl ?_
    refine z_xI zt41 36 rfl rfl (fun (x30 : Int32) (h31 : x30 = b4 >>> (b8 &&& 31)) => ?_) (rfl)
    refine z_xP zt41 37 84 [some (.ref a0), some (.int p1), some (.int p2), some (.int b3), some (.int b4), some (.int b5), some (.long y28), none, some (.int b8)] [.int 1, .int x30] rfl rfl ?_
    refine z_xI zt41 38 rfl rfl (fun (x32 : Int32) (h33 : x32 = x30 &&& (1 : Int32)) => ?_) (rfl)
    refine z_xZ zt41 39 rfl rfl (fun (h34 : x32.toInt = 0) => ?_) (fun (h34 : x32.toInt ≠ 0) => ?_)
    · skip
      refine z_xN zt41 48 rfl rfl (fun (x35 : Int32) (h36 : x35.toInt = b8.toInt + 1) => ?_) (z_pAdd rfl rfl (by omega) (by omega))
      show z_ev d 41 106 [some (.ref a0), some (.int p1), some (.int p2), some (.int b3), some (.int b4), some (.int b5), some (.long y28), none, some (.int x35)] [] M _
      refine z_xP zt41 49 49 [some (.ref a0), some (.int p1), some (.int p2), some (.int b3), some (.int b4), some (.int b5), some (.long y28), none, some (.int x35)] [] rfl rfl ?_
      have i37 : x35.toInt.toNat = b8.toInt.toNat + 1 := by omega
      exact ih M b3 b4 b5 y28 x35 X ⟨by omega, by omega⟩ ⟨by omega, by omega⟩ ⟨by omega, by omega⟩ ⟨by omega, by omega⟩ (by omega) (by omega) hC (by rw [i37]; exact (z_svn0 (z_svy1 hI (z_sbit h5 h7 (by omega) ⟨by omega, by omega⟩) (by omega) (by omega) (h27.symm.trans ((congrFun (X.2.lg f2 (by decide)) _).trans (hc2 b8.toInt.toNat (by omega)))) h29) (z_sbit h31 h33 (by omega) ⟨by omega, by omega⟩) (by omega))) (by omega)
    refine z_xP zt41 40 90 [some (.ref a0), some (.int p1), some (.int p2), some (.int b3), some (.int b4), some (.int b5), some (.long y28), none, some (.int b8)] [.long y28] rfl rfl ?_
    refine z_xgs zt41 41 rfl zo41 zg2_97 ?_
    refine z_xP zt41 42 95 [some (.ref a0), some (.int p1), some (.int p2), some (.int b3), some (.int b4), some (.int b5), some (.long y28), none, some (.int b8)] [.int b8, .ref 2, .long y28] rfl rfl ?_
    refine z_xllv zt41 43 rfl X f2 (by decide) (by omega) (by omega) (fun (y38 : Int64) h39 => ?_)
    refine z_xl2 zt41 44 rfl zo41 zkl2_38 ?_
    refine z_xL zt41 45 rfl rfl (fun (y40 : Int64) (h41 : y40 = y38 ^^^ (-1)) => ?_) (rfl)
    refine z_xL zt41 46 rfl rfl (fun (y42 : Int64) (h43 : y42 = y28 &&& y40) => ?_) (rfl)
    refine z_xP zt41 47 103 [some (.ref a0), some (.int p1), some (.int p2), some (.int b3), some (.int b4), some (.int b5), some (.long y42), none, some (.int b8)] [] rfl rfl ?_
    refine z_xN zt41 48 rfl rfl (fun (x44 : Int32) (h45 : x44.toInt = b8.toInt + 1) => ?_) (z_pAdd rfl rfl (by omega) (by omega))
    show z_ev d 41 106 [some (.ref a0), some (.int p1), some (.int p2), some (.int b3), some (.int b4), some (.int b5), some (.long y42), none, some (.int x44)] [] M _
    refine z_xP zt41 49 49 [some (.ref a0), some (.int p1), some (.int p2), some (.int b3), some (.int b4), some (.int b5), some (.long y42), none, some (.int x44)] [] rfl rfl ?_
    have i46 : x44.toInt.toNat = b8.toInt.toNat + 1 := by omega
    exact ih M b3 b4 b5 y42 x44 X ⟨by omega, by omega⟩ ⟨by omega, by omega⟩ ⟨by omega, by omega⟩ ⟨by omega, by omega⟩ (by omega) (by omega) hC (by rw [i46]; exact (z_svn1 (z_svy1 hI (z_sbit h5 h7 (by omega) ⟨by omega, by omega⟩) (by omega) (by omega) (h27.symm.trans ((congrFun (X.2.lg f2 (by decide)) _).trans (hc2 b8.toInt.toNat (by omega)))) h29) (z_sbit h31 h33 (by omega) ⟨by omega, by omega⟩) (by omega) (by omega) (h39.symm.trans ((congrFun (X.2.lg f2 (by decide)) _).trans (hc2 b8.toInt.toNat (by omega)))) h41 h43)) (by omega)
theorem zUC41 {T : List zK} {d : Nat} {K : Option Value → zH → Prop} {a0 : Nat} {q : Nat} {t : Nat} {m : Nat} {p1 : Int32} {p2 : Int32} {w : Int64} {uy un : Nat} {M0 : zH} (hW : z_W M0 T) (k0 : T[a0]? = some (.inl (2, q, t, m, 0))) (u2 : 0 ≤ p2.toInt ∧ p2.toInt ≤ 15) (hb0 : p2.toInt < ((z_bl q : Nat) : Int)) (hw7 : z_F M0 a0 7 = some (.long w)) (hw : z_whb q w) (hd : p1.toInt = (uy : Int) + 1024 * (un : Int) ∧ uy < 1024 ∧ un < 1024) (hc2 : ∀ k, k < 6 → z_Lg M0 2 k = z_ty2.getD k 0) (kk : ∀ (x : Int64) (M1 : zH), z_X T zw41 M0 M1 → z_hw q uy un p2.toInt.toNat x → K (some (.long x)) M1) : z_ev d 41 0 [some (.ref a0), some (.int p1), some (.int p2), none, none, none, none, none, none] [] M0 K := by
  have X : z_X T zw41 M0 M0 := .refl hW
  have g0 := X.1.p2 k0
  refine z_xP zt41 0 4 [some (.ref a0), some (.int p1), some (.int p2), none, none, none, none, none, none] [.int 1023, .int p1] rfl rfl ?_
  refine z_xI zt41 1 rfl rfl (fun (x1 : Int32) (h2 : x1 = p1 &&& (1023 : Int32) ∧ 0 ≤ x1.toInt ∧ x1.toInt ≤ 1023) => ?_) (⟨rfl, z_pAnd rfl (by omega)⟩)
  refine z_xP zt41 2 9 [some (.ref a0), some (.int p1), some (.int p2), some (.int x1), none, none, none, none, none] [.int 10, .int p1] rfl rfl ?_
  have h3 := z_b32 p1
  refine z_xI zt41 3 rfl rfl (fun (x4 : Int32) (h5 : x4.toInt = p1.toInt / 1024) => ?_) (z_pShr (c := 1024) 10 rfl rfl (by decide))
  refine z_xP zt41 4 15 [some (.ref a0), some (.int p1), some (.int p2), some (.int x1), some (.int x4), none, none, none, none] [.int 6, .int p2] rfl rfl ?_
  refine z_xI zt41 5 rfl rfl (fun (x6 : Int32) (h7 : x6.toInt = p2.toInt * 64) => ?_) (z_pShl 6 rfl rfl (by decide) (by decide) (by omega) rfl (by omega))
  refine z_xP zt41 6 21 [some (.ref a0), some (.int p1), some (.int p2), some (.int x1), some (.int x4), some (.int x6), none, none, none] [.int (-64), .int x1] rfl rfl ?_
  refine z_xI zt41 7 rfl rfl (fun (x8 : Int32) (h9 : x8 = x1 &&& ((-64) : Int32) ∧ 0 ≤ x8.toInt ∧ x8.toInt ≤ x1.toInt) => ?_) (⟨rfl, z_pAndL rfl (by omega)⟩)
  refine z_xP zt41 8 25 [some (.ref a0), some (.int p1), some (.int p2), some (.int x1), some (.int x4), some (.int x6), none, none, none] [.int (-1), .int x6, .int x8] rfl rfl ?_
  refine z_xI zt41 9 rfl rfl (fun (x10 : Int32) (h11 : x10 = x6 ^^^ ((-1) : Int32)) => ?_) (rfl)
  refine z_xI zt41 10 rfl rfl (fun (x12 : Int32) (h13 : x12 = x8 &&& x10 ∧ 0 ≤ x12.toInt ∧ x12.toInt ≤ x8.toInt) => ?_) (⟨rfl, z_pAndL rfl (by omega)⟩)
  refine z_xZ zt41 11 rfl rfl (fun (h14 : x12.toInt ≠ 0) => ?_) (fun (h14 : x12.toInt = 0) => ?_)
  · skip
    refine z_xP zt41 15 39 [some (.ref a0), some (.int p1), some (.int p2), some (.int x1), some (.int x4), some (.int x6), none, none, none] [.long 0] rfl rfl ?_
    have e15 : x1.toInt = (uy : Int) := by have := z_and1023 h2.1 (by omega); omega
    have e16 : x4.toInt = (un : Int) := by omega
    have e17 : x6.toInt = 64 * ((p2.toInt.toNat : Nat) : Int) := by omega
    have q0 : ((0 : Int64)).toInt = 0 := rfl
    exact z_xrl zt41 16 rfl zzr41 (kk 0 M0 X (z_hw0 (fun hc => absurd ((z_shA e15 hd.2.1 e17 h9.1 h11 h13.1).mpr hc.1) (by omega))))
  refine z_xP zt41 12 34 [some (.ref a0), some (.int p1), some (.int p2), some (.int x1), some (.int x4), some (.int x6), none, none, none] [.int x6, .int x4] rfl rfl ?_
  refine z_xI zt41 13 rfl rfl (fun (x18 : Int32) (h19 : x18 = x4 &&& x6 ∧ 0 ≤ x18.toInt ∧ x18.toInt ≤ x6.toInt) => ?_) (⟨rfl, z_pAnd rfl (by omega)⟩)
  refine z_xZ zt41 14 rfl rfl (fun (h20 : x18.toInt = 0) => ?_) (fun (h20 : x18.toInt ≠ 0) => ?_)
  · skip
    refine z_xP zt41 17 41 [some (.ref a0), some (.int p1), some (.int p2), some (.int x1), some (.int x4), some (.int x6), none, none, none] [.ref a0] rfl rfl ?_
    refine z_xgv zt41 18 rfl zo41 zzf2_40 X k0 (by decide) hw7 ?_
    refine z_xP zt41 19 49 [some (.ref a0), some (.int p1), some (.int p2), some (.int x1), some (.int x4), some (.int x6), some (.long w), none, some (.int 0)] [] rfl rfl ?_
    have e21 : x1.toInt = (uy : Int) := by have := z_and1023 h2.1 (by omega); omega
    have e22 : x4.toInt = (un : Int) := by omega
    have e23 : x6.toInt = 64 * ((p2.toInt.toNat : Nat) : Int) := by omega
    have q0 : ((0 : Int32)).toInt = 0 := rfl
    exact (zUB41 k0 u2 hb0 hw7 hw hd hc2 kk 14) M0 x1 x4 x6 w (0) X ⟨by omega, by omega⟩ ⟨by omega, by omega⟩ ⟨by omega, by omega⟩ (by decide) (by omega) (by omega) ⟨(z_shA e21 hd.2.1 e23 h9.1 h11 h13.1).mp (by omega), (z_shB e22 hd.2.2 e23 h19.1).mp (by omega)⟩ (z_svw0 rfl) (by omega)
  refine z_xP zt41 15 39 [some (.ref a0), some (.int p1), some (.int p2), some (.int x1), some (.int x4), some (.int x6), none, none, none] [.long 0] rfl rfl ?_
  have e24 : x1.toInt = (uy : Int) := by have := z_and1023 h2.1 (by omega); omega
  have e25 : x4.toInt = (un : Int) := by omega
  have e26 : x6.toInt = 64 * ((p2.toInt.toNat : Nat) : Int) := by omega
  have q0 : ((0 : Int64)).toInt = 0 := rfl
  exact z_xrl zt41 16 rfl zzr41 (kk 0 M0 X (z_hw0 (fun hc => absurd ((z_shB e25 hd.2.2 e26 h19.1).mpr hc.2) (by omega))))
theorem zUB40 {T : List zK} {d : Nat} {K : Option Value → zH → Prop} {a0 : Nat} {q : Nat} {t : Nat} {m : Nat} {p1 : Int32} {w : Int64} {uy un kp : Nat} {B : Nat → Nat} {M0 : zH} (k0 : T[a0]? = some (.inl (2, q, t, m, 0))) (hw7 : z_F M0 a0 7 = some (.long w)) (hw : z_whb q w) (hd : p1.toInt = (uy : Int) + 1024 * (un : Int) ∧ uy < 1024 ∧ un < 1024) (hc2 : ∀ k, k < 6 → z_Lg M0 2 k = z_ty2.getD k 0) (hw8 : z_F M0 a0 8 = some (.ref kp)) (hk8 : T[kp]? = some (.inr (108, 1, t * z_bl q, 0, 0))) (hkb : z_tbt B t q (z_bl q) (z_Lg M0 kp)) (kk : ∀ (x : Int32) (M1 : zH), z_X T zw40 M0 M1 → 0 ≤ x.toInt → x.toInt ≤ 255 → z_brs B q t uy un x.toInt → K (some (.int x)) M1) : ∀ n : Nat, (∀ (M : zH) (b2 : Int32) (b3 : Int32) (o4 : Option Value) (o6 : Option Value), z_X T zw40 M0 M → 0 ≤ b2.toInt ∧ b2.toInt ≤ 255 → 0 ≤ b3.toInt ∧ b3.toInt ≤ 16 → z_tbk B q t uy un b3.toInt.toNat 0 b2.toInt.toNat → ((((0) * 3 + 1) * 17 + (16 - b3.toInt)) * 3 + 2) * 9 + (0) < (n : Int) → z_ev (d + 1) 40 11 [some (.ref a0), some (.int p1), some (.int b2), some (.int b3), o4, none, o6] [] M K) ∧ (∀ (M : zH) (b2 : Int32) (b3 : Int32) (b4 : Int64) (b6 : Int32), z_X T zw40 M0 M → 0 ≤ b2.toInt ∧ b2.toInt ≤ 255 → 0 ≤ b3.toInt ∧ b3.toInt ≤ 15 → 0 ≤ b6.toInt ∧ b6.toInt ≤ 8 → b3.toInt < ((z_bl q : Nat) : Int) → z_tbk B q t uy un b3.toInt.toNat b6.toInt.toNat b2.toInt.toNat → z_hw q uy un b3.toInt.toNat b4 → ((((0) * 3 + 1) * 17 + (16 - b3.toInt)) * 3 + 0) * 9 + (8 - b6.toInt) < (n : Int) → z_ev (d + 1) 40 30 [some (.ref a0), some (.int p1), some (.int b2), some (.int b3), some (.long b4), none, some (.int b6)] [] M K) := by
  intro n
  induction n with
  | zero => exact ⟨(by intros; exfalso; omega), (by intros; exfalso; omega)⟩
  | succ n ih =>
    refine ⟨?_, ?_⟩
    · skip
      intro M b2 b3 o4 o6 X hh0 hh1 hI hE
      have g0 := X.1.p2 k0
      refine z_xP zt40 6 13 [some (.ref a0), some (.int p1), some (.int b2), some (.int b3), o4, none, o6] [.ref a0, .int b3] rfl rfl ?_
      refine z_xgI zt40 7 rfl zo40 zzf2_35 X k0 (by decide) (by decide) rfl (fun (x2 : Int32) h1 (h3 : ((z_bl q : Nat) : Int) ≤ x2.toInt) (h4 : x2.toInt ≤ ((z_bl q : Nat) : Int)) => ?_)
      refine z_xJ zt40 8 rfl rfl (fun (h5 : x2.toInt ≤ b3.toInt) => ?_) (fun (h5 : b3.toInt < x2.toInt) => ?_)
      · skip
        refine z_xP zt40 40 90 [some (.ref a0), some (.int p1), some (.int b2), some (.int b3), o4, none, o6] [.int b2] rfl rfl ?_
        exact z_xri zt40 41 rfl zzr40 (kk b2 M X (by omega) (by omega) (z_tbkE hI (by omega) g0.2.1.2.2.2.2.1 (by omega)))
      refine z_xP zt40 9 22 [some (.ref a0), some (.int p1), some (.int b2), some (.int b3), o4, none, o6] [.int b3, .int p1, .ref a0] rfl rfl ?_
      refine z_xcV (vs := [.ref a0, .int p1, .int b3]) (r := []) (L2 := [some (.ref a0), some (.int p1), some (.int b3), none, none, none, none, none, none]) zt40 10 rfl zo40 zzcV2_94 (Or.inl rfl) rfl X k0 rfl rfl rfl (Nat.le_of_ble_eq_true rfl) zzm41 (Nat.le_of_ble_eq_true rfl) rfl ?_
      have f2 : T[2]? = some (.inr (2, 1, 6, 0, 0)) := X.1.k rfl (by decide)
      refine zUC41 X.1 k0 (by omega) (by omega) (X.2.f k0 (by decide) hw7) hw hd (fun k hk => (congrFun (X.2.lg f2 (by decide)) k).trans (hc2 k hk)) (fun y9 M6 X7 h8 => ?_)
      have X10 := X.go X7 (z_sb (by decide))
      show z_ev (d + 1) 40 25 [some (.ref a0), some (.int p1), some (.int b2), some (.int b3), o4, none, o6] [.long y9] M6 _
      refine z_xP zt40 11 30 [some (.ref a0), some (.int p1), some (.int b2), some (.int b3), some (.long y9), none, some (.int 0)] [] rfl rfl ?_
      have q0 : ((0 : Int32)).toInt = 0 := rfl
      exact ih.2 M6 b2 b3 y9 (0) X10 ⟨by omega, by omega⟩ ⟨by omega, by omega⟩ (by decide) (by omega) hI h8 (by omega)
    · skip
      intro M b2 b3 b4 b6 X hh0 hh1 hh2 hh3 hI hL hE
      have g0 := X.1.p2 k0
      refine z_xP zt40 12 33 [some (.ref a0), some (.int p1), some (.int b2), some (.int b3), some (.long b4), none, some (.int b6)] [.ref a0, .int b6] rfl rfl ?_
      refine z_xgI zt40 13 rfl zo40 zzf2_25 X k0 (by decide) (by decide) rfl (fun (x2 : Int32) h1 (h3 : (t : Int) ≤ x2.toInt) (h4 : x2.toInt ≤ (t : Int)) => ?_)
      refine z_xJ zt40 14 rfl rfl (fun (h5 : x2.toInt ≤ b6.toInt) => ?_) (fun (h5 : b6.toInt < x2.toInt) => ?_)
      · skip
        refine z_xN zt40 38 rfl rfl (fun (x6 : Int32) (h7 : x6.toInt = b3.toInt + 1) => ?_) (z_pAdd rfl rfl (by omega) (by omega))
        show z_ev (d + 1) 40 86 [some (.ref a0), some (.int p1), some (.int b2), some (.int x6), some (.long b4), none, some (.int b6)] [] M _
        refine z_xP zt40 39 11 [some (.ref a0), some (.int p1), some (.int b2), some (.int x6), some (.long b4), none, some (.int b6)] [] rfl rfl ?_
        have i8 : x6.toInt.toNat = b3.toInt.toNat + 1 := by omega
        exact ih.1 M b2 x6 (some (.long b4)) (some (.int b6)) X ⟨by omega, by omega⟩ ⟨by omega, by omega⟩ (by rw [i8]; exact z_tbkN hI (by omega)) (by omega)
      refine z_xP zt40 15 42 [some (.ref a0), some (.int p1), some (.int b2), some (.int b3), some (.long b4), none, some (.int b6)] [.long 0, .long b4] rfl rfl ?_
      refine z_xI zt40 16 rfl rfl (fun (x9 : Int32) (h10 : (x9.toInt < 0 ∧ b4.toInt < 0) ∨ (x9.toInt = 0 ∧ b4.toInt = 0) ∨ (0 < x9.toInt ∧ 0 < b4.toInt)) => ?_) (z_qCmp rfl rfl)
      refine z_xZ zt40 17 rfl rfl (fun (h11 : x9.toInt = 0) => ?_) (fun (h11 : x9.toInt ≠ 0) => ?_)
      · skip
        refine z_xN zt40 38 rfl rfl (fun (x12 : Int32) (h13 : x12.toInt = b3.toInt + 1) => ?_) (z_pAdd rfl rfl (by omega) (by omega))
        show z_ev (d + 1) 40 86 [some (.ref a0), some (.int p1), some (.int b2), some (.int x12), some (.long b4), none, some (.int b6)] [] M _
        refine z_xP zt40 39 11 [some (.ref a0), some (.int p1), some (.int b2), some (.int x12), some (.long b4), none, some (.int b6)] [] rfl rfl ?_
        have i14 : x12.toInt.toNat = b3.toInt.toNat + 1 := by omega
        exact ih.1 M b2 x12 (some (.long b4)) (some (.int b6)) X ⟨by omega, by omega⟩ ⟨by omega, by omega⟩ (by rw [i14]; exact z_tbkZ hI hL (by omega)) (by omega)
      refine z_xP zt40 18 49 [some (.ref a0), some (.int p1), some (.int b2), some (.int b3), some (.long b4), none, some (.int b6)] [.ref a0, .long b4] rfl rfl ?_
      refine z_xgR (κ := .inr (108, 1, t * z_bl q, 0, 0)) zt40 19 rfl zo40 zzf2_28 X k0 (by decide) (by decide) rfl (fun (a16 : Nat) h15 k17 => ?_)
      refine z_xP zt40 20 55 [some (.ref a0), some (.int p1), some (.int b2), some (.int b3), some (.long b4), none, some (.int b6)] [.ref a0, .int b6, .ref a16, .long b4] rfl rfl ?_
      refine z_xgI zt40 21 rfl zo40 zzf2_35 X k0 (by decide) (by decide) rfl (fun (x19 : Int32) h18 (h20 : ((z_bl q : Nat) : Int) ≤ x19.toInt) (h21 : x19.toInt ≤ ((z_bl q : Nat) : Int)) => ?_)
      refine z_xI zt40 22 rfl rfl (fun (x22 : Int32) (h23 : x22.toInt = b6.toInt * x19.toInt ∧ 0 ≤ x22.toInt ∧ x22.toInt ≤ 112) => ?_) (z_pMulB (a := 7) (b := 16) rfl rfl (by omega) (by omega) (by omega) (by omega) (by decide) (by decide))
      refine z_xP zt40 23 60 [some (.ref a0), some (.int p1), some (.int b2), some (.int b3), some (.long b4), none, some (.int b6)] [.int b3, .int x22, .ref a16, .long b4] rfl rfl ?_
      refine z_xI zt40 24 rfl rfl (fun (x24 : Int32) (h25 : x24.toInt = x22.toInt + b3.toInt) => ?_) (z_pAdd rfl rfl (by omega) (by omega))
      have h26 := z_nlx (p := x22.toInt) (x := b6.toInt) (y := x19.toInt) (s := b3.toInt) (z := x24.toInt) (A := t) (B := z_bl q) (by omega) (by omega) (by omega) (by omega) (by omega) (by omega) (by omega)
      refine z_xllv zt40 25 rfl X k17 (by decide) h26.1 h26.2 (fun (y27 : Int64) h28 => ?_)
      refine z_xL zt40 26 rfl rfl (fun (y29 : Int64) (h30 : y29 = b4 &&& y27) => ?_) (rfl)
      refine z_xP zt40 27 64 [some (.ref a0), some (.int p1), some (.int b2), some (.int b3), some (.long b4), none, some (.int b6)] [.long 0, .long y29] rfl rfl ?_
      refine z_xI zt40 28 rfl rfl (fun (x31 : Int32) (h32 : (x31.toInt < 0 ∧ y29.toInt < 0) ∨ (x31.toInt = 0 ∧ y29.toInt = 0) ∨ (0 < x31.toInt ∧ 0 < y29.toInt)) => ?_) (z_qCmp rfl rfl)
      refine z_xZ zt40 29 rfl rfl (fun (h33 : x31.toInt = 0) => ?_) (fun (h33 : x31.toInt ≠ 0) => ?_)
      · skip
        refine z_xN zt40 36 rfl rfl (fun (x34 : Int32) (h35 : x34.toInt = b6.toInt + 1) => ?_) (z_pAdd rfl rfl (by omega) (by omega))
        show z_ev (d + 1) 40 80 [some (.ref a0), some (.int p1), some (.int b2), some (.int b3), some (.long b4), none, some (.int x34)] [] M _
        refine z_xP zt40 37 30 [some (.ref a0), some (.int p1), some (.int b2), some (.int b3), some (.long b4), none, some (.int x34)] [] rfl rfl ?_
        have i36 : x34.toInt.toNat = b6.toInt.toNat + 1 := by omega
        exact ih.2 M b2 b3 b4 x34 X ⟨by omega, by omega⟩ ⟨by omega, by omega⟩ ⟨by omega, by omega⟩ (by omega) (by rw [i36]; exact z_tbkA hI hL (z_tbw (x := b6.toInt.toNat) (b := b3.toInt.toNat) hkb (by omega) (by omega) (z_kpL h15 (X.2.f k0 (by decide) hw8) h28 (z_ixm h23.1 (by omega) (by omega) h25 (by omega)) (X.2.lg hk8 (by decide)))) h30 (by omega)) hL (by omega)
      refine z_xP zt40 30 72 [some (.ref a0), some (.int p1), some (.int b2), some (.int b3), some (.long b4), none, some (.int b6)] [.int b6, .int 1, .int b2] rfl rfl ?_
      refine z_xI zt40 31 rfl rfl (fun (x37 : Int32) (h38 : x37 = (1 : Int32) <<< (b6 &&& 31)) => ?_) (rfl)
      refine z_xP zt40 32 74 [some (.ref a0), some (.int p1), some (.int b2), some (.int b3), some (.long b4), none, some (.int b6)] [.int (-1), .int x37, .int b2] rfl rfl ?_
      refine z_xI zt40 33 rfl rfl (fun (x39 : Int32) (h40 : x39 = x37 ^^^ ((-1) : Int32)) => ?_) (rfl)
      refine z_xI zt40 34 rfl rfl (fun (x41 : Int32) (h42 : x41 = b2 &&& x39 ∧ 0 ≤ x41.toInt ∧ x41.toInt ≤ b2.toInt) => ?_) (⟨rfl, z_pAndL rfl (by omega)⟩)
      refine z_xP zt40 35 77 [some (.ref a0), some (.int p1), some (.int x41), some (.int b3), some (.long b4), none, some (.int b6)] [] rfl rfl ?_
      refine z_xN zt40 36 rfl rfl (fun (x43 : Int32) (h44 : x43.toInt = b6.toInt + 1) => ?_) (z_pAdd rfl rfl (by omega) (by omega))
      show z_ev (d + 1) 40 80 [some (.ref a0), some (.int p1), some (.int x41), some (.int b3), some (.long b4), none, some (.int x43)] [] M _
      refine z_xP zt40 37 30 [some (.ref a0), some (.int p1), some (.int x41), some (.int b3), some (.long b4), none, some (.int x43)] [] rfl rfl ?_
      have i45 : x43.toInt.toNat = b6.toInt.toNat + 1 := by omega
      have i46 := z_andn (x := b6.toInt.toNat) hh0.1 (by omega) (by omega) h38 h40 h42.1
      exact ih.2 M x41 b3 b4 x43 X ⟨by omega, by omega⟩ ⟨by omega, by omega⟩ ⟨by omega, by omega⟩ (by omega) (by rw [i45]; exact z_tbkC hI hL (z_tbw (x := b6.toInt.toNat) (b := b3.toInt.toNat) hkb (by omega) (by omega) (z_kpL h15 (X.2.f k0 (by decide) hw8) h28 (z_ixm h23.1 (by omega) (by omega) h25 (by omega)) (X.2.lg hk8 (by decide)))) h30 (by omega) (by omega) (by omega) i46.2) hL (by omega)
theorem zUC40 {T : List zK} {d : Nat} {K : Option Value → zH → Prop} {a0 : Nat} {q : Nat} {t : Nat} {m : Nat} {p1 : Int32} {w : Int64} {uy un kp : Nat} {B : Nat → Nat} {M0 : zH} (hW : z_W M0 T) (k0 : T[a0]? = some (.inl (2, q, t, m, 0))) (hw7 : z_F M0 a0 7 = some (.long w)) (hw : z_whb q w) (hd : p1.toInt = (uy : Int) + 1024 * (un : Int) ∧ uy < 1024 ∧ un < 1024) (hc2 : ∀ k, k < 6 → z_Lg M0 2 k = z_ty2.getD k 0) (hw8 : z_F M0 a0 8 = some (.ref kp)) (hk8 : T[kp]? = some (.inr (108, 1, t * z_bl q, 0, 0))) (hkb : z_tbt B t q (z_bl q) (z_Lg M0 kp)) (kk : ∀ (x : Int32) (M1 : zH), z_X T zw40 M0 M1 → 0 ≤ x.toInt → x.toInt ≤ 255 → z_brs B q t uy un x.toInt → K (some (.int x)) M1) : z_ev (d + 1) 40 0 [some (.ref a0), some (.int p1), none, none, none, none, none] [] M0 K := by
  have X : z_X T zw40 M0 M0 := .refl hW
  have g0 := X.1.p2 k0
  refine z_xP zt40 0 2 [some (.ref a0), some (.int p1), none, none, none, none, none] [.ref a0, .int 1] rfl rfl ?_
  refine z_xgI zt40 1 rfl zo40 zzf2_25 X k0 (by decide) (by decide) rfl (fun (x2 : Int32) h1 (h3 : (t : Int) ≤ x2.toInt) (h4 : x2.toInt ≤ (t : Int)) => ?_)
  refine z_xI zt40 2 rfl rfl (fun (x5 : Int32) (h6 : x5 = (1 : Int32) <<< (x2 &&& 31) ∧ 1 ≤ x5.toInt ∧ x5.toInt ≤ 256) => ?_) (⟨rfl, z_pShlB (a := 1) (b := 8) (c := 256) (r := 256) rfl rfl (by omega) (by omega) (by omega) (by omega) (by decide) (by decide) (by decide) (by decide)⟩)
  refine z_xP zt40 3 7 [some (.ref a0), some (.int p1), none, none, none, none, none] [.int 1, .int x5] rfl rfl ?_
  refine z_xI zt40 4 rfl rfl (fun (x7 : Int32) (h8 : x7.toInt = x5.toInt - 1) => ?_) (z_pSub rfl rfl (by omega) (by omega))
  refine z_xP zt40 5 11 [some (.ref a0), some (.int p1), some (.int x7), some (.int 0), none, none, none] [] rfl rfl ?_
  have q0 : ((0 : Int32)).toInt = 0 := rfl
  exact (zUB40 k0 hw7 hw hd hc2 hw8 hk8 hkb kk 1377).1 M0 x7 (0) none none X ⟨by omega, by omega⟩ (by decide) (z_tbk0 (x0 := 0) (x2 := x2) rfl (by omega) (by omega) h6.1 (by omega)) (by omega)
