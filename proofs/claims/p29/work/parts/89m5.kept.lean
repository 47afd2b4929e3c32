/-! mend: keptWithout, told -/
theorem zKB24 {T : List zK} {d : Nat} {K : Option Value → zH → Prop} {a0 : Nat} {q : Nat} {t : Nat} {m : Nat} {p1 : Int32} {p2 : Int32} {w : Int64} {kp : Nat} {M0 : zH} (k0 : T[a0]? = some (.inl (2, q, t, m, 0))) (u2 : 0 ≤ p2.toInt ∧ p2.toInt ≤ 15) (hb0 : p2.toInt < ((z_bl q : Nat) : Int)) (h7 : z_F M0 a0 7 = some (.long w)) (h8_ : z_F M0 a0 8 = some (.ref kp)) (k8_ : T[kp]? = some (.inr (108, 1, t * z_bl q, 0, 0))) (hp0 : 0 ≤ p1.toInt) (kk : ∀ (x : Int64) (M1 : zH), z_X T zw24 M0 M1 → z_kpd w (z_Lg M0 kp) (z_bl q) p2.toInt.toNat p1.toInt.toNat t x → K (some (.long x)) M1) : ∀ n : Nat, (∀ (M : zH) (b3 : Int64) (b5 : Int32), z_X T zw24 M0 M → 0 ≤ b5.toInt ∧ b5.toInt ≤ 8 → b5.toInt ≤ (t : Int) → z_kpd w (z_Lg M0 kp) (z_bl q) p2.toInt.toNat p1.toInt.toNat b5.toInt.toNat b3 → ((0) * 2 + 0) * 9 + (8 - b5.toInt) < (n : Int) → z_ev d 24 8 [some (.ref a0), some (.int p1), some (.int p2), some (.long b3), none, some (.int b5)] [] M K) := by
  intro n
  induction n with
  | zero => exact by intros; exfalso; omega
  | succ n ih =>
    intro M b3 b5 X hh0 hh1 hK hE
    have g0 := X.1.p2 k0
    refine z_xP zt24 3 11 [some (.ref a0), some (.int p1), some (.int p2), some (.long b3), none, some (.int b5)] [.ref a0, .int b5] rfl rfl ?_
    refine z_xgI zt24 4 rfl zo24 zzf2_25 X k0 (by decide) (by decide) rfl (fun (x2 : Int32) h1 (h3 : (t : Int) ≤ x2.toInt) (h4 : x2.toInt ≤ (t : Int)) => ?_)
    refine z_xJ zt24 5 rfl rfl (fun (h5 : x2.toInt ≤ b5.toInt) => ?_) (fun (h5 : b5.toInt < x2.toInt) => ?_)
    · skip
      refine z_xP zt24 26 56 [some (.ref a0), some (.int p1), some (.int p2), some (.long b3), none, some (.int b5)] [.long b3] rfl rfl ?_
      exact z_xrl zt24 27 rfl zzr24 (kk b3 M X (by rw [← show b5.toInt.toNat = t from by omega]; exact hK))
    refine z_xP zt24 6 19 [some (.ref a0), some (.int p1), some (.int p2), some (.long b3), none, some (.int b5)] [.long 0, .long b3] rfl rfl ?_
    refine z_xI zt24 7 rfl rfl (fun (x6 : Int32) (h7 : (x6.toInt < 0 ∧ b3.toInt < 0) ∨ (x6.toInt = 0 ∧ b3.toInt = 0) ∨ (0 < x6.toInt ∧ 0 < b3.toInt)) => ?_) (z_qCmp rfl rfl)
    refine z_xZ zt24 8 rfl rfl (fun (h8 : x6.toInt = 0) => ?_) (fun (h8 : x6.toInt ≠ 0) => ?_)
    · skip
      refine z_xP zt24 26 56 [some (.ref a0), some (.int p1), some (.int p2), some (.long b3), none, some (.int b5)] [.long b3] rfl rfl ?_
      exact z_xrl zt24 27 rfl zzr24 (kk b3 M X (z_kpdE hK (by omega) (by omega)))
    refine z_xP zt24 9 26 [some (.ref a0), some (.int p1), some (.int p2), some (.long b3), none, some (.int b5)] [.int b5, .int p1] rfl rfl ?_
    have h9 := z_b32 p1
    refine z_xI zt24 10 rfl rfl (fun (x10 : Int32) (h11 : x10 = p1 >>> (b5 &&& 31)) => ?_) (rfl)
    refine z_xP zt24 11 28 [some (.ref a0), some (.int p1), some (.int p2), some (.long b3), none, some (.int b5)] [.int 1, .int x10] rfl rfl ?_
    refine z_xI zt24 12 rfl rfl (fun (x12 : Int32) (h13 : x12 = x10 &&& (1 : Int32) ∧ 0 ≤ x12.toInt ∧ x12.toInt ≤ 1) => ?_) (⟨rfl, z_pAnd rfl (by omega)⟩)
    refine z_xZ zt24 13 rfl rfl (fun (h14 : x12.toInt ≠ 0) => ?_) (fun (h14 : x12.toInt = 0) => ?_)
    · skip
      refine z_xN zt24 24 rfl rfl (fun (x15 : Int32) (h16 : x15.toInt = b5.toInt + 1) => ?_) (z_pAdd rfl rfl (by omega) (by omega))
      show z_ev d 24 52 [some (.ref a0), some (.int p1), some (.int p2), some (.long b3), none, some (.int x15)] [] M _
      refine z_xP zt24 25 8 [some (.ref a0), some (.int p1), some (.int p2), some (.long b3), none, some (.int x15)] [] rfl rfl ?_
      have i17 : x15.toInt.toNat = b5.toInt.toNat + 1 := by omega
      have hs18 := z_sbit h11 h13.1 hp0 ⟨by omega, by omega⟩
      exact ih M b3 x15 X ⟨by omega, by omega⟩ (by omega) (by rw [i17]; exact z_kpdN hK ((z_b01z hs18).2 (by omega))) (by omega)
    refine z_xP zt24 14 34 [some (.ref a0), some (.int p1), some (.int p2), some (.long b3), none, some (.int b5)] [.ref a0, .long b3] rfl rfl ?_
    refine z_xgR (κ := .inr (108, 1, t * z_bl q, 0, 0)) zt24 15 rfl zo24 zzf2_28 X k0 (by decide) (by decide) rfl (fun (a20 : Nat) h19 k21 => ?_)
    refine z_xP zt24 16 40 [some (.ref a0), some (.int p1), some (.int p2), some (.long b3), none, some (.int b5)] [.ref a0, .int b5, .ref a20, .long b3] rfl rfl ?_
    refine z_xgI zt24 17 rfl zo24 zzf2_35 X k0 (by decide) (by decide) rfl (fun (x23 : Int32) h22 (h24 : ((z_bl q : Nat) : Int) ≤ x23.toInt) (h25 : x23.toInt ≤ ((z_bl q : Nat) : Int)) => ?_)
    refine z_xI zt24 18 rfl rfl (fun (x26 : Int32) (h27 : x26.toInt = b5.toInt * x23.toInt ∧ 0 ≤ x26.toInt ∧ x26.toInt ≤ 112) => ?_) (z_pMulB (a := 7) (b := 16) rfl rfl (by omega) (by omega) (by omega) (by omega) (by decide) (by decide))
    refine z_xP zt24 19 45 [some (.ref a0), some (.int p1), some (.int p2), some (.long b3), none, some (.int b5)] [.int p2, .int x26, .ref a20, .long b3] rfl rfl ?_
    refine z_xI zt24 20 rfl rfl (fun (x28 : Int32) (h29 : x28.toInt = x26.toInt + p2.toInt) => ?_) (z_pAdd rfl rfl (by omega) (by omega))
    have h30 := z_nlx (p := x26.toInt) (x := b5.toInt) (y := x23.toInt) (s := p2.toInt) (z := x28.toInt) (A := t) (B := z_bl q) (by omega) (by omega) (by omega) (by omega) (by omega) (by omega) (by omega)
    refine z_xllv zt24 21 rfl X k21 (by decide) h30.1 h30.2 (fun (y31 : Int64) h32 => ?_)
    refine z_xL zt24 22 rfl rfl (fun (y33 : Int64) (h34 : y33 = b3 &&& y31) => ?_) (rfl)
    refine z_xP zt24 23 49 [some (.ref a0), some (.int p1), some (.int p2), some (.long y33), none, some (.int b5)] [] rfl rfl ?_
    refine z_xN zt24 24 rfl rfl (fun (x35 : Int32) (h36 : x35.toInt = b5.toInt + 1) => ?_) (z_pAdd rfl rfl (by omega) (by omega))
    show z_ev d 24 52 [some (.ref a0), some (.int p1), some (.int p2), some (.long y33), none, some (.int x35)] [] M _
    refine z_xP zt24 25 8 [some (.ref a0), some (.int p1), some (.int p2), some (.long y33), none, some (.int x35)] [] rfl rfl ?_
    have i37 : x35.toInt.toNat = b5.toInt.toNat + 1 := by omega
    have hs38 := z_sbit h11 h13.1 hp0 ⟨by omega, by omega⟩
    have ia39 := z_rfM h19 (X.2.f k0 (by decide) h8_)
    have h40 := h32
    rw [ia39] at h40
    exact ih M y33 x35 X ⟨by omega, by omega⟩ (by omega) (by rw [i37]; exact z_kpdS hK (z_kix h27.1 (by omega) (by omega) h29 (by omega) ((congrFun (X.2.lg k8_ (by decide)) _).symm.trans h40)) h34 ((z_b01z hs38).1 (by omega))) (by omega)
theorem zKC24 {T : List zK} {d : Nat} {K : Option Value → zH → Prop} {a0 : Nat} {q : Nat} {t : Nat} {m : Nat} {p1 : Int32} {p2 : Int32} {w : Int64} {kp : Nat} {M0 : zH} (hW : z_W M0 T) (k0 : T[a0]? = some (.inl (2, q, t, m, 0))) (u2 : 0 ≤ p2.toInt ∧ p2.toInt ≤ 15) (hb0 : p2.toInt < ((z_bl q : Nat) : Int)) (h7 : z_F M0 a0 7 = some (.long w)) (h8_ : z_F M0 a0 8 = some (.ref kp)) (k8_ : T[kp]? = some (.inr (108, 1, t * z_bl q, 0, 0))) (hp0 : 0 ≤ p1.toInt) (kk : ∀ (x : Int64) (M1 : zH), z_X T zw24 M0 M1 → z_kpd w (z_Lg M0 kp) (z_bl q) p2.toInt.toNat p1.toInt.toNat t x → K (some (.long x)) M1) : z_ev d 24 0 [some (.ref a0), some (.int p1), some (.int p2), none, none, none] [] M0 K := by
  have X : z_X T zw24 M0 M0 := .refl hW
  have g0 := X.1.p2 k0
  refine z_xP zt24 0 1 [some (.ref a0), some (.int p1), some (.int p2), none, none, none] [.ref a0] rfl rfl ?_
  refine z_xgL zt24 1 rfl zo24 zzf2_40 X k0 (by decide) (by decide) rfl (fun (y2 : Int64) h1 => ?_)
  refine z_xP zt24 2 8 [some (.ref a0), some (.int p1), some (.int p2), some (.long y2), none, some (.int 0)] [] rfl rfl ?_
  have i3 : y2 = w := z_rle h1 (X.2.f k0 (by decide) h7)
  have q0 : ((0 : Int32)).toInt = 0 := rfl
  exact (zKB24 k0 u2 hb0 h7 h8_ k8_ hp0 kk 18) M0 y2 (0) X (by decide) (by omega) (by rw [i3]; exact z_kpd0) (by omega)
