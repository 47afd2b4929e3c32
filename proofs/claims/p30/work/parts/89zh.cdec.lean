/-! 95, 96, told -/
theorem zUB95 {T : List zK} {d : Nat} {K : Option Value → zH → Prop} {a0 : Nat} {q : Nat} {t : Nat} {m : Nat} {J : Nat} {M0 : zH} (k0 : T[a0]? = some (.inl (3, q, t, m, J))) (hW0 : z_W M0 T) (hbk : z_blk T M0) (kk : ∀ (x : Int32) (M1 : zH), z_X T zw95 M0 M1 → 0 ≤ x.toInt → x.toInt ≤ 1048575 → z_w2 (fun k => 0 < (z_Ar M0 (a0 + 4) k).toInt) (fun k => (z_Ar M0 (a0 + 4) k).toInt < 0) q x.toInt → K (some (.int x)) M1) : ∀ n : Nat, (∀ (M : zH) (b1 : Int32) (b2 : Int32), z_X T zw95 M0 M → 0 ≤ b1.toInt ∧ b1.toInt ≤ 1048575 → 0 ≤ b2.toInt ∧ b2.toInt ≤ 10 → b2.toInt ≤ (q : Int) → z_w2 (fun k => 0 < (z_Ar M0 (a0 + 4) k).toInt) (fun k => (z_Ar M0 (a0 + 4) k).toInt < 0) b2.toInt.toNat b1.toInt → ((0) * 2 + 0) * 11 + (10 - b2.toInt) < (n : Int) → z_ev d 95 4 [some (.ref a0), some (.int b1), some (.int b2)] [] M K) := by
  intro n
  induction n with
  | zero => exact by intros; exfalso; omega
  | succ n ih =>
    intro M b1 b2 X hh0 hh1 hh2 hI hE
    have g0 := X.1.p3 k0
    refine z_xP zt95 1 6 [some (.ref a0), some (.int b1), some (.int b2)] [.ref a0, .int b2] rfl rfl ?_
    refine z_xgR (κ := .inl (2, q, t, m, 0)) zt95 2 rfl zo95 zzf3_39 X k0 (by decide) (by decide) rfl (fun (a2 : Nat) h1 k3 => ?_)
    have g4 := X.1.p2 k3
    refine z_xgI zt95 3 rfl zo95 zzf3_63 X k3 (by decide) (by decide) rfl (fun (x6 : Int32) h5 (h7 : (q : Int) ≤ x6.toInt) (h8 : x6.toInt ≤ (q : Int)) => ?_)
    refine z_xJ zt95 4 rfl rfl (fun (h9 : x6.toInt ≤ b2.toInt) => ?_) (fun (h9 : b2.toInt < x6.toInt) => ?_)
    · skip
      refine z_xP zt95 26 55 [some (.ref a0), some (.int b1), some (.int b2)] [.int b1] rfl rfl ?_
      have i10 : b2.toInt.toNat = q := by omega
      exact z_xri zt95 27 rfl zzr95 (kk b1 M X (by omega) (by omega) (by rw [← i10]; exact hI))
    refine z_xP zt95 5 16 [some (.ref a0), some (.int b1), some (.int b2)] [.ref a0] rfl rfl ?_
    refine z_xgR (κ := .inr (205, 0, 10, (-2147483648), 2147483647)) zt95 6 rfl zo95 zzf3_21 X k0 (by decide) (by decide) rfl (fun (a12 : Nat) h11 k13 => ?_)
    refine z_xP zt95 7 20 [some (.ref a0), some (.int b1), some (.int b2)] [.int b2, .ref a12] rfl rfl ?_
    refine z_xil zt95 8 rfl X k13 (by decide) (by omega) (by omega) (fun (x14 : Int32) h15 (h16 : (-2147483648) ≤ x14.toInt) (h17 : x14.toInt ≤ 2147483647) => ?_)
    refine z_xZ zt95 9 rfl rfl (fun (h18 : x14.toInt ≤ 0) => ?_) (fun (h18 : 0 < x14.toInt) => ?_)
    · skip
      refine z_xP zt95 14 31 [some (.ref a0), some (.int b1), some (.int b2)] [.ref a0] rfl rfl ?_
      refine z_xgv zt95 15 rfl zo95 zzf3_21 X k0 (by decide) h11 ?_
      refine z_xP zt95 16 35 [some (.ref a0), some (.int b1), some (.int b2)] [.int b2, .ref a12] rfl rfl ?_
      refine z_xil zt95 17 rfl X k13 (by decide) (by omega) (by omega) (fun (x19 : Int32) h20 (h21 : (-2147483648) ≤ x19.toInt) (h22 : x19.toInt ≤ 2147483647) => ?_)
      have h23 := congrArg Int32.toInt (h20.symm.trans h15)
      refine z_xZ zt95 18 rfl rfl (fun (h24 : 0 ≤ x19.toInt) => ?_) (fun (h24 : x19.toInt < 0) => ?_)
      · skip
        refine z_xN zt95 24 rfl rfl (fun (x25 : Int32) (h26 : x25.toInt = b2.toInt + 1) => ?_) (z_pAdd rfl rfl (by omega) (by omega))
        show z_ev d 95 51 [some (.ref a0), some (.int b1), some (.int x25)] [] M _
        refine z_xP zt95 25 4 [some (.ref a0), some (.int b1), some (.int x25)] [] rfl rfl ?_
        have ia27 := z_rfe h11 (X.2.f k0 (by decide) (hbk _ _ _ _ _ k0).2.2.2.1)
        have h28 := h15
        rw [ia27] at h28
        have hl29 : (z_Ar M0 (a0 + 4) b2.toInt.toNat).toInt = x14.toInt := congrArg Int32.toInt ((congrFun (X.2.a (hbk.k4 hW0 k0) (by decide)) _).symm.trans h28)
        have i30 : x25.toInt.toNat = b2.toInt.toNat + 1 := by omega
        exact ih M b1 x25 X ⟨by omega, by omega⟩ ⟨by omega, by omega⟩ (by omega) (by rw [i30]; exact z_w2N hI (by rw [hl29]; omega) (by rw [hl29]; omega)) (by omega)
      refine z_xP zt95 19 44 [some (.ref a0), some (.int b1), some (.int b2)] [.int 10, .int b2, .int 1, .int b1] rfl rfl ?_
      refine z_xI zt95 20 rfl rfl (fun (x31 : Int32) (h32 : x31.toInt = b2.toInt + 10) => ?_) (z_pAdd rfl rfl (by omega) (by omega))
      refine z_xI zt95 21 rfl rfl (fun (x33 : Int32) (h34 : x33 = (1 : Int32) <<< (x31 &&& 31) ∧ 1 ≤ x33.toInt ∧ x33.toInt ≤ 524288) => ?_) (⟨rfl, z_pShlB (a := 1) (b := 19) (c := 524288) (r := 524288) rfl rfl (by omega) (by omega) (by omega) (by omega) (by decide) (by decide) (by decide) (by decide)⟩)
      refine z_xI zt95 22 rfl rfl (fun (x35 : Int32) (h36 : x35 = b1 ||| x33 ∧ 0 ≤ x35.toInt ∧ x35.toInt < 1048576 ∧ b1.toInt ≤ x35.toInt ∧ x33.toInt ≤ x35.toInt) => ?_) (⟨rfl, z_pOr 20 rfl rfl (by omega) (by omega) (by decide) (by omega) (by omega) (by decide)⟩)
      refine z_xP zt95 23 48 [some (.ref a0), some (.int x35), some (.int b2)] [] rfl rfl ?_
      refine z_xN zt95 24 rfl rfl (fun (x37 : Int32) (h38 : x37.toInt = b2.toInt + 1) => ?_) (z_pAdd rfl rfl (by omega) (by omega))
      show z_ev d 95 51 [some (.ref a0), some (.int x35), some (.int x37)] [] M _
      refine z_xP zt95 25 4 [some (.ref a0), some (.int x35), some (.int x37)] [] rfl rfl ?_
      have ia39 := z_rfe h11 (X.2.f k0 (by decide) (hbk _ _ _ _ _ k0).2.2.2.1)
      have h40 := h15
      rw [ia39] at h40
      have hl41 : (z_Ar M0 (a0 + 4) b2.toInt.toNat).toInt = x14.toInt := congrArg Int32.toInt ((congrFun (X.2.a (hbk.k4 hW0 k0) (by decide)) _).symm.trans h40)
      have i42 : x37.toInt.toNat = b2.toInt.toNat + 1 := by omega
      exact ih M x35 x37 X ⟨by omega, by omega⟩ ⟨by omega, by omega⟩ (by omega) (by rw [i42]; exact z_w2Q hI (by omega) (by rw [hl41]; omega) (by rw [hl41]; omega) (by omega) h34.1 h36.1) (by omega)
    refine z_xP zt95 10 27 [some (.ref a0), some (.int b1), some (.int b2)] [.int b2, .int 1, .int b1] rfl rfl ?_
    refine z_xI zt95 11 rfl rfl (fun (x43 : Int32) (h44 : x43 = (1 : Int32) <<< (b2 &&& 31) ∧ 1 ≤ x43.toInt ∧ x43.toInt ≤ 512) => ?_) (⟨rfl, z_pShlB (a := 1) (b := 9) (c := 512) (r := 512) rfl rfl (by omega) (by omega) (by omega) (by omega) (by decide) (by decide) (by decide) (by decide)⟩)
    refine z_xI zt95 12 rfl rfl (fun (x45 : Int32) (h46 : x45 = b1 ||| x43 ∧ 0 ≤ x45.toInt ∧ x45.toInt < 1048576 ∧ b1.toInt ≤ x45.toInt ∧ x43.toInt ≤ x45.toInt) => ?_) (⟨rfl, z_pOr 20 rfl rfl (by omega) (by omega) (by decide) (by omega) (by omega) (by decide)⟩)
    refine z_xP zt95 13 30 [some (.ref a0), some (.int x45), some (.int b2)] [] rfl rfl ?_
    refine z_xP zt95 14 31 [some (.ref a0), some (.int x45), some (.int b2)] [.ref a0] rfl rfl ?_
    refine z_xgv zt95 15 rfl zo95 zzf3_21 X k0 (by decide) h11 ?_
    refine z_xP zt95 16 35 [some (.ref a0), some (.int x45), some (.int b2)] [.int b2, .ref a12] rfl rfl ?_
    refine z_xil zt95 17 rfl X k13 (by decide) (by omega) (by omega) (fun (x47 : Int32) h48 (h49 : (-2147483648) ≤ x47.toInt) (h50 : x47.toInt ≤ 2147483647) => ?_)
    have h51 := congrArg Int32.toInt (h48.symm.trans h15)
    refine z_xZ zt95 18 rfl rfl (fun (h52 : 0 ≤ x47.toInt) => ?_) (fun (h52 : x47.toInt < 0) => absurd h52 (by omega))
    refine z_xN zt95 24 rfl rfl (fun (x53 : Int32) (h54 : x53.toInt = b2.toInt + 1) => ?_) (z_pAdd rfl rfl (by omega) (by omega))
    show z_ev d 95 51 [some (.ref a0), some (.int x45), some (.int x53)] [] M _
    refine z_xP zt95 25 4 [some (.ref a0), some (.int x45), some (.int x53)] [] rfl rfl ?_
    have ia55 := z_rfe h11 (X.2.f k0 (by decide) (hbk _ _ _ _ _ k0).2.2.2.1)
    have h56 := h15
    rw [ia55] at h56
    have hl57 : (z_Ar M0 (a0 + 4) b2.toInt.toNat).toInt = x14.toInt := congrArg Int32.toInt ((congrFun (X.2.a (hbk.k4 hW0 k0) (by decide)) _).symm.trans h56)
    have i58 : x53.toInt.toNat = b2.toInt.toNat + 1 := by omega
    exact ih M x45 x53 X ⟨by omega, by omega⟩ ⟨by omega, by omega⟩ (by omega) (by rw [i58]; exact z_w2P hI (by omega) (by rw [hl57]; omega) (by rw [hl57]; omega) (by omega) h44.1 h46.1) (by omega)
theorem zUC95 {T : List zK} {d : Nat} {K : Option Value → zH → Prop} {a0 : Nat} {q : Nat} {t : Nat} {m : Nat} {J : Nat} {M0 : zH} (hW : z_W M0 T) (k0 : T[a0]? = some (.inl (3, q, t, m, J))) (hW0 : z_W M0 T) (hbk : z_blk T M0) (kk : ∀ (x : Int32) (M1 : zH), z_X T zw95 M0 M1 → 0 ≤ x.toInt → x.toInt ≤ 1048575 → z_w2 (fun k => 0 < (z_Ar M0 (a0 + 4) k).toInt) (fun k => (z_Ar M0 (a0 + 4) k).toInt < 0) q x.toInt → K (some (.int x)) M1) : z_ev d 95 0 [some (.ref a0), none, none] [] M0 K := by
  have X : z_X T zw95 M0 M0 := .refl hW
  have g0 := X.1.p3 k0
  refine z_xP zt95 0 4 [some (.ref a0), some (.int 0), some (.int 0)] [] rfl rfl ?_
  have q0 : ((0 : Int32)).toInt = 0 := rfl
  exact (zUB95 k0 hW0 hbk kk 22) M0 (0) (0) X (by decide) (by decide) (by omega) (z_w20 rfl rfl) (by omega)
theorem zUB96 {T : List zK} {d : Nat} {K : Option Value → zH → Prop} {a0 : Nat} {q : Nat} {t : Nat} {m : Nat} {J : Nat} {p1 : Int32} {N sa t2 pr en : Nat} {B : Nat → Nat} {M0 : zH} (k0 : T[a0]? = some (.inl (3, q, t, m, J))) (u1 : 0 ≤ p1.toInt ∧ p1.toInt ≤ 2147483647) (hW0 : z_W M0 T) (hbk : z_blk T M0) (hN0 : z_F M0 a0 0 = some (.ref N)) (hag : z_AGO T M0 N q t2 m pr en B) (hsa : z_F M0 N 5 = some (.ref sa)) (ksa : T[sa]? = some (.inr (102, 0, m, 0, 1023))) (hz5 : z_Ar M0 (a0 + 5) 0 = 0) (hz6 : z_Ar M0 (a0 + 6) 0 = 0) (hto : z_tos (z_Ar M0 (a0 + 4)) q p1) (hlb : ∀ k, k < q → -81 ≤ (z_Ar M0 (a0 + 4) k).toInt ∧ (z_Ar M0 (a0 + 4) k).toInt ≤ 81) (kk : ∀ (x : Int32) (M1 : zH), z_X T zw96 M0 M1 → (-1) ≤ x.toInt → x.toInt ≤ 1023 → z_nofD (fun s : Int32 => -(z_sbL (z_Ar M0 (a0 + 4)) s.toInt.toNat 10).toInt) (z_Ar M0 sa) (fun s : Int32 => (s &&& ((p1 &&& 1023) ||| (p1 >>> ((10 : Int32) &&& 31)))).toInt = (p1 &&& 1023).toInt) m x.toInt ∧ z_lz M1 a0 → K (some (.int x)) M1) : ∀ n : Nat, (∀ (M : zH) (b2 : Int32) (b3 : Int32) (b4 : Int32) (b5 : Int32) (b6 : Int32) (b7 : Int32) (o8 : Option Value) (o9 : Option Value), z_X T zw96 M0 M → 0 ≤ b2.toInt ∧ b2.toInt ≤ 1023 → 0 ≤ b3.toInt ∧ b3.toInt ≤ 1023 → 0 ≤ b4.toInt ∧ b4.toInt ≤ 2097151 → (-1) ≤ b5.toInt ∧ b5.toInt ≤ 1023 → 0 ≤ b7.toInt ∧ b7.toInt ≤ 1024 → b7.toInt ≤ (m : Int) → z_low M0 M a0 q → b3 = p1 &&& 1023 → b4 = (p1 &&& 1023) ||| (p1 >>> ((10 : Int32) &&& 31)) → z_nfm (fun s : Int32 => -(z_sbL (z_Ar M0 (a0 + 4)) s.toInt.toNat 10).toInt) (z_Ar M0 sa) (fun s : Int32 => (s &&& b4).toInt = b3.toInt) b7.toInt.toNat b5 b6.toInt → ((0) * 2 + 0) * 1025 + (1024 - b7.toInt) < (n : Int) → z_ev (d + 2) 96 49 [some (.ref a0), some (.int p1), some (.int b2), some (.int b3), some (.int b4), some (.int b5), some (.int b6), some (.int b7), o8, o9] [] M K) := by
  intro n
  induction n with
  | zero => exact by intros; exfalso; omega
  | succ n ih =>
    intro M b2 b3 b4 b5 b6 b7 o8 o9 X hh0 hh1 hh2 hh3 hh4 hh5 hlo hty hbo hI hE
    have g0 := X.1.p3 k0
    refine z_xP zt96 19 52 [some (.ref a0), some (.int p1), some (.int b2), some (.int b3), some (.int b4), some (.int b5), some (.int b6), some (.int b7), o8, o9] [.ref a0, .int b7] rfl rfl ?_
    refine z_xgR (κ := .inl (2, q, t, m, 0)) zt96 20 rfl zo96 zzf3_39 X k0 (by decide) (by decide) rfl (fun (a2 : Nat) h1 k3 => ?_)
    have g4 := X.1.p2 k3
    refine z_xgR (κ := .inr (102, 0, m, 0, 1023)) zt96 21 rfl zo96 zzf3_101 X k3 (by decide) (by decide) rfl (fun (a6 : Nat) h5 k7 => ?_)
    refine z_xln zt96 22 rfl X k7 (by decide) (by omega) (fun (x8 : Int32) (h9 : x8.toInt = ((m : Nat) : Int)) => ?_)
    refine z_xJ zt96 23 rfl rfl (fun (h10 : x8.toInt ≤ b7.toInt) => ?_) (fun (h10 : b7.toInt < x8.toInt) => ?_)
    · skip
      refine z_xP zt96 43 122 [some (.ref a0), some (.int p1), some (.int b2), some (.int b3), some (.int b4), some (.int b5), some (.int b6), some (.int b7), o8, o9] [.int b5] rfl rfl ?_
      have i11 : b7.toInt.toNat = m := by omega
      exact z_xri zt96 44 rfl zzr96 (kk b5 M X (by omega) (by omega) ⟨by rw [← i11, ← hbo, ← hty]; exact hI.1, z_low.lz hlo⟩)
    refine z_xP zt96 24 63 [some (.ref a0), some (.int p1), some (.int b2), some (.int b3), some (.int b4), some (.int b5), some (.int b6), some (.int b7), o8, o9] [.ref a0] rfl rfl ?_
    refine z_xgv zt96 25 rfl zo96 zzf3_39 X k0 (by decide) h1 ?_
    refine z_xgv zt96 26 rfl zo96 zzf3_101 X k3 (by decide) h5 ?_
    refine z_xP zt96 27 71 [some (.ref a0), some (.int p1), some (.int b2), some (.int b3), some (.int b4), some (.int b5), some (.int b6), some (.int b7), o8, o9] [.int b7, .ref a6] rfl rfl ?_
    refine z_xil zt96 28 rfl X k7 (by decide) (by omega) (by omega) (fun (x12 : Int32) h13 (h14 : 0 ≤ x12.toInt) (h15 : x12.toInt ≤ 1023) => ?_)
    refine z_xP zt96 29 78 [some (.ref a0), some (.int p1), some (.int b2), some (.int b3), some (.int b4), some (.int b5), some (.int b6), some (.int b7), some (.int x12), o9] [.int b4, .int x12] rfl rfl ?_
    refine z_xI zt96 30 rfl rfl (fun (x16 : Int32) (h17 : x16 = x12 &&& b4 ∧ 0 ≤ x16.toInt ∧ x16.toInt ≤ x12.toInt ∧ x16.toInt ≤ b4.toInt) => ?_) (⟨rfl, z_pAnd2 rfl rfl (by omega) (by omega)⟩)
    refine z_xP zt96 31 80 [some (.ref a0), some (.int p1), some (.int b2), some (.int b3), some (.int b4), some (.int b5), some (.int b6), some (.int b7), some (.int x12), o9] [.int b3, .int x16] rfl rfl ?_
    refine z_xJ zt96 32 rfl rfl (fun (h18 : x16.toInt = b3.toInt) => ?_) (fun (h18 : x16.toInt ≠ b3.toInt) => ?_)
    · skip
      refine z_xP zt96 34 89 [some (.ref a0), some (.int p1), some (.int b2), some (.int b3), some (.int b4), some (.int b5), some (.int b6), some (.int b7), some (.int x12), o9] [.int x12, .ref a0] rfl rfl ?_
      refine z_xcV (vs := [.ref a0, .int x12]) (r := []) (L2 := [some (.ref a0), some (.int x12)]) zt96 35 rfl zo96 zzcV3_104 (Or.inl rfl) rfl X k0 rfl rfl rfl (Nat.le_of_ble_eq_true rfl) zzm72 (Nat.le_of_ble_eq_true rfl) rfl ?_
      refine z_xP zt72 0 1 [some (.ref a0), some (.int x12)] [.ref a0] rfl rfl ?_
      refine z_xgR (κ := .inr (206, 0, 32, (-2147483648), 2147483647)) zt72 1 rfl zo72 zzf3_24 X k0 (by decide) (by decide) rfl (fun (a20 : Nat) h19 k21 => ?_)
      refine z_xP zt72 2 7 [some (.ref a0), some (.int x12)] [.int 31, .int x12, .ref a20] rfl rfl ?_
      refine z_xI zt72 3 rfl rfl (fun (x22 : Int32) (h23 : x22 = x12 &&& (31 : Int32) ∧ 0 ≤ x22.toInt ∧ x22.toInt ≤ x12.toInt ∧ x22.toInt ≤ 31) => ?_) (⟨rfl, z_pAnd2 rfl rfl (by omega) (by omega)⟩)
      refine z_xil zt72 4 rfl X k21 (by decide) (by omega) (by omega) (fun (x24 : Int32) h25 (h26 : (-2147483648) ≤ x24.toInt) (h27 : x24.toInt ≤ 2147483647) => ?_)
      refine z_xP zt72 5 10 [some (.ref a0), some (.int x12)] [.ref a0, .int x24] rfl rfl ?_
      refine z_xgR (κ := .inr (207, 0, 32, (-2147483648), 2147483647)) zt72 6 rfl zo72 zzf3_27 X k0 (by decide) (by decide) rfl (fun (a29 : Nat) h28 k30 => ?_)
      refine z_xP zt72 7 15 [some (.ref a0), some (.int x12)] [.int 5, .int x12, .ref a29, .int x24] rfl rfl ?_
      refine z_xI zt72 8 rfl rfl (fun (x31 : Int32) (h32 : x31.toInt = x12.toInt / 32) => ?_) (z_pShr (c := 32) 5 rfl rfl (by decide))
      refine z_xP zt72 9 18 [some (.ref a0), some (.int x12)] [.int 31, .int x31, .ref a29, .int x24] rfl rfl ?_
      refine z_xI zt72 10 rfl rfl (fun (x33 : Int32) (h34 : x33 = x31 &&& (31 : Int32) ∧ 0 ≤ x33.toInt ∧ x33.toInt ≤ x31.toInt ∧ x33.toInt ≤ 31) => ?_) (⟨rfl, z_pAnd2 rfl rfl (by omega) (by omega)⟩)
      refine z_xil zt72 11 rfl X k30 (by decide) (by omega) (by omega) (fun (x35 : Int32) h36 (h37 : (-2147483648) ≤ x35.toInt) (h38 : x35.toInt ≤ 2147483647) => ?_)
      have h39 := z_b32 x24
      have h40 := z_b32 x35
      refine z_xI zt72 12 rfl rfl (fun (x41 : Int32) (h42 : x41 = x24 + x35) => ?_) (rfl)
      refine z_xri zt72 13 rfl zzr72 ?_
      show z_ev (d + 2) 96 92 [some (.ref a0), some (.int p1), some (.int b2), some (.int b3), some (.int b4), some (.int b5), some (.int b6), some (.int b7), some (.int x12), o9] [.int x41] M _
      refine z_xP zt96 36 96 [some (.ref a0), some (.int p1), some (.int b2), some (.int b3), some (.int b4), some (.int b5), some (.int b6), some (.int b7), some (.int x12), some (.int x41)] [.int b5] rfl rfl ?_
      refine z_xZ zt96 37 rfl rfl (fun (h43 : b5.toInt < 0) => ?_) (fun (h43 : 0 ≤ b5.toInt) => ?_)
      · skip
        refine z_xP zt96 40 114 [some (.ref a0), some (.int p1), some (.int b2), some (.int b3), some (.int b4), some (.int x12), some (.int x41), some (.int b7), some (.int x12), some (.int x41)] [] rfl rfl ?_
        refine z_xN zt96 41 rfl rfl (fun (x44 : Int32) (h45 : x44.toInt = b7.toInt + 1) => ?_) (z_pAdd rfl rfl (by omega) (by omega))
        show z_ev (d + 2) 96 117 [some (.ref a0), some (.int p1), some (.int b2), some (.int b3), some (.int b4), some (.int x12), some (.int x41), some (.int x44), some (.int x12), some (.int x41)] [] M _
        refine z_xP zt96 42 49 [some (.ref a0), some (.int p1), some (.int b2), some (.int b3), some (.int b4), some (.int x12), some (.int x41), some (.int x44), some (.int x12), some (.int x41)] [] rfl rfl ?_
        have iN46 := z_rfe h1 (X.2.f k0 (by decide) hN0)
        have h48 := h5
        rw [iN46] at h48
        have is47 := z_rfe h48 (X.2.f hag.1 (by decide) hsa)
        have h49 := h13
        rw [is47] at h49
        have ia50 := z_rfe h19 (X.2.f k0 (by decide) (hbk _ _ _ _ _ k0).2.2.2.2.1)
        rw [ia50] at h25
        have ia51 := z_rfe h28 (X.2.f k0 (by decide) (hbk _ _ _ _ _ k0).2.2.2.2.2.1)
        rw [ia51] at h36
        have hL52 : (z_sbL (z_Ar M0 (a0 + 4)) (z_Ar M0 sa b7.toInt.toNat).toInt.toNat 10).toInt = x41.toInt := z_lnOf hlo ((congrFun (X.2.a ksa (by decide)) _).symm.trans h49) (z_LSlt hag hsa (by omega)) (by omega) h23.1 h32 h34.1 h25 h36 h42
        have i53 : x44.toInt.toNat = b7.toInt.toNat + 1 := by omega
        exact ih M b2 b3 b4 x12 x41 x44 (some (.int x12)) (some (.int x41)) X ⟨by omega, by omega⟩ ⟨by omega, by omega⟩ ⟨by omega, by omega⟩ ⟨by omega, by omega⟩ ⟨by omega, by omega⟩ (by omega) hlo hty hbo (by rw [i53]; exact z_nfmT hI ((congrFun (X.2.a ksa (by decide)) _).symm.trans h49) (by omega) (by rw [← h17.1]; omega) (congrArg (fun t : Int => -t) (by rw [show z_Ar M0 sa b7.toInt.toNat = x12 from ((congrFun (X.2.a ksa (by decide)) _).symm.trans h49)] at hL52; exact hL52)) (by omega)) (by omega)
      refine z_xP zt96 38 103 [some (.ref a0), some (.int p1), some (.int b2), some (.int b3), some (.int b4), some (.int b5), some (.int b6), some (.int b7), some (.int x12), some (.int x41)] [.int b6, .int x41] rfl rfl ?_
      have h54 := z_b32 x41
      have h55 := z_b32 b6
      refine z_xJ zt96 39 rfl rfl (fun (h56 : x41.toInt ≤ b6.toInt) => ?_) (fun (h56 : b6.toInt < x41.toInt) => ?_)
      · skip
        refine z_xN zt96 41 rfl rfl (fun (x57 : Int32) (h58 : x57.toInt = b7.toInt + 1) => ?_) (z_pAdd rfl rfl (by omega) (by omega))
        show z_ev (d + 2) 96 117 [some (.ref a0), some (.int p1), some (.int b2), some (.int b3), some (.int b4), some (.int b5), some (.int b6), some (.int x57), some (.int x12), some (.int x41)] [] M _
        refine z_xP zt96 42 49 [some (.ref a0), some (.int p1), some (.int b2), some (.int b3), some (.int b4), some (.int b5), some (.int b6), some (.int x57), some (.int x12), some (.int x41)] [] rfl rfl ?_
        have iN59 := z_rfe h1 (X.2.f k0 (by decide) hN0)
        have h61 := h5
        rw [iN59] at h61
        have is60 := z_rfe h61 (X.2.f hag.1 (by decide) hsa)
        have h62 := h13
        rw [is60] at h62
        have ia63 := z_rfe h19 (X.2.f k0 (by decide) (hbk _ _ _ _ _ k0).2.2.2.2.1)
        rw [ia63] at h25
        have ia64 := z_rfe h28 (X.2.f k0 (by decide) (hbk _ _ _ _ _ k0).2.2.2.2.2.1)
        rw [ia64] at h36
        have hL65 : (z_sbL (z_Ar M0 (a0 + 4)) (z_Ar M0 sa b7.toInt.toNat).toInt.toNat 10).toInt = x41.toInt := z_lnOf hlo ((congrFun (X.2.a ksa (by decide)) _).symm.trans h62) (z_LSlt hag hsa (by omega)) (by omega) h23.1 h32 h34.1 h25 h36 h42
        have i66 : x57.toInt.toNat = b7.toInt.toNat + 1 := by omega
        exact ih M b2 b3 b4 b5 b6 x57 (some (.int x12)) (some (.int x41)) X ⟨by omega, by omega⟩ ⟨by omega, by omega⟩ ⟨by omega, by omega⟩ ⟨by omega, by omega⟩ ⟨by omega, by omega⟩ (by omega) hlo hty hbo (by rw [i66]; exact z_nfmL (l := x41.toInt) hI ((congrFun (X.2.a ksa (by decide)) _).symm.trans h62) (congrArg (fun t : Int => -t) (by rw [show z_Ar M0 sa b7.toInt.toNat = x12 from ((congrFun (X.2.a ksa (by decide)) _).symm.trans h62)] at hL65; exact hL65)) (by omega)) (by omega)
      refine z_xP zt96 40 114 [some (.ref a0), some (.int p1), some (.int b2), some (.int b3), some (.int b4), some (.int x12), some (.int x41), some (.int b7), some (.int x12), some (.int x41)] [] rfl rfl ?_
      refine z_xN zt96 41 rfl rfl (fun (x67 : Int32) (h68 : x67.toInt = b7.toInt + 1) => ?_) (z_pAdd rfl rfl (by omega) (by omega))
      show z_ev (d + 2) 96 117 [some (.ref a0), some (.int p1), some (.int b2), some (.int b3), some (.int b4), some (.int x12), some (.int x41), some (.int x67), some (.int x12), some (.int x41)] [] M _
      refine z_xP zt96 42 49 [some (.ref a0), some (.int p1), some (.int b2), some (.int b3), some (.int b4), some (.int x12), some (.int x41), some (.int x67), some (.int x12), some (.int x41)] [] rfl rfl ?_
      have iN69 := z_rfe h1 (X.2.f k0 (by decide) hN0)
      have h71 := h5
      rw [iN69] at h71
      have is70 := z_rfe h71 (X.2.f hag.1 (by decide) hsa)
      have h72 := h13
      rw [is70] at h72
      have ia73 := z_rfe h19 (X.2.f k0 (by decide) (hbk _ _ _ _ _ k0).2.2.2.2.1)
      rw [ia73] at h25
      have ia74 := z_rfe h28 (X.2.f k0 (by decide) (hbk _ _ _ _ _ k0).2.2.2.2.2.1)
      rw [ia74] at h36
      have hL75 : (z_sbL (z_Ar M0 (a0 + 4)) (z_Ar M0 sa b7.toInt.toNat).toInt.toNat 10).toInt = x41.toInt := z_lnOf hlo ((congrFun (X.2.a ksa (by decide)) _).symm.trans h72) (z_LSlt hag hsa (by omega)) (by omega) h23.1 h32 h34.1 h25 h36 h42
      have i76 : x67.toInt.toNat = b7.toInt.toNat + 1 := by omega
      exact ih M b2 b3 b4 x12 x41 x67 (some (.int x12)) (some (.int x41)) X ⟨by omega, by omega⟩ ⟨by omega, by omega⟩ ⟨by omega, by omega⟩ ⟨by omega, by omega⟩ ⟨by omega, by omega⟩ (by omega) hlo hty hbo (by rw [i76]; exact z_nfmT hI ((congrFun (X.2.a ksa (by decide)) _).symm.trans h72) (by omega) (by rw [← h17.1]; omega) (congrArg (fun t : Int => -t) (by rw [show z_Ar M0 sa b7.toInt.toNat = x12 from ((congrFun (X.2.a ksa (by decide)) _).symm.trans h72)] at hL75; exact hL75)) (by omega)) (by omega)
    refine z_xP zt96 33 114 [some (.ref a0), some (.int p1), some (.int b2), some (.int b3), some (.int b4), some (.int b5), some (.int b6), some (.int b7), some (.int x12), o9] [] rfl rfl ?_
    refine z_xN zt96 41 rfl rfl (fun (x77 : Int32) (h78 : x77.toInt = b7.toInt + 1) => ?_) (z_pAdd rfl rfl (by omega) (by omega))
    show z_ev (d + 2) 96 117 [some (.ref a0), some (.int p1), some (.int b2), some (.int b3), some (.int b4), some (.int b5), some (.int b6), some (.int x77), some (.int x12), o9] [] M _
    refine z_xP zt96 42 49 [some (.ref a0), some (.int p1), some (.int b2), some (.int b3), some (.int b4), some (.int b5), some (.int b6), some (.int x77), some (.int x12), o9] [] rfl rfl ?_
    have iN79 := z_rfe h1 (X.2.f k0 (by decide) hN0)
    have h81 := h5
    rw [iN79] at h81
    have is80 := z_rfe h81 (X.2.f hag.1 (by decide) hsa)
    have h82 := h13
    rw [is80] at h82
    have i83 : x77.toInt.toNat = b7.toInt.toNat + 1 := by omega
    exact ih M b2 b3 b4 b5 b6 x77 (some (.int x12)) (o9) X ⟨by omega, by omega⟩ ⟨by omega, by omega⟩ ⟨by omega, by omega⟩ ⟨by omega, by omega⟩ ⟨by omega, by omega⟩ (by omega) hlo hty hbo (by rw [i83]; exact z_nfmK hI ((congrFun (X.2.a ksa (by decide)) _).symm.trans h82) (by rw [← h17.1]; omega)) (by omega)
theorem zUC96 {T : List zK} {d : Nat} {K : Option Value → zH → Prop} {a0 : Nat} {q : Nat} {t : Nat} {m : Nat} {J : Nat} {p1 : Int32} {N sa t2 pr en : Nat} {B : Nat → Nat} {M0 : zH} (hW : z_W M0 T) (k0 : T[a0]? = some (.inl (3, q, t, m, J))) (u1 : 0 ≤ p1.toInt ∧ p1.toInt ≤ 2147483647) (hW0 : z_W M0 T) (hbk : z_blk T M0) (hN0 : z_F M0 a0 0 = some (.ref N)) (hag : z_AGO T M0 N q t2 m pr en B) (hsa : z_F M0 N 5 = some (.ref sa)) (ksa : T[sa]? = some (.inr (102, 0, m, 0, 1023))) (hz5 : z_Ar M0 (a0 + 5) 0 = 0) (hz6 : z_Ar M0 (a0 + 6) 0 = 0) (hto : z_tos (z_Ar M0 (a0 + 4)) q p1) (hlb : ∀ k, k < q → -81 ≤ (z_Ar M0 (a0 + 4) k).toInt ∧ (z_Ar M0 (a0 + 4) k).toInt ≤ 81) (kk : ∀ (x : Int32) (M1 : zH), z_X T zw96 M0 M1 → (-1) ≤ x.toInt → x.toInt ≤ 1023 → z_nofD (fun s : Int32 => -(z_sbL (z_Ar M0 (a0 + 4)) s.toInt.toNat 10).toInt) (z_Ar M0 sa) (fun s : Int32 => (s &&& ((p1 &&& 1023) ||| (p1 >>> ((10 : Int32) &&& 31)))).toInt = (p1 &&& 1023).toInt) m x.toInt ∧ z_lz M1 a0 → K (some (.int x)) M1) : z_ev (d + 2) 96 0 [some (.ref a0), some (.int p1), none, none, none, none, none, none, none, none] [] M0 K := by
  have X : z_X T zw96 M0 M0 := .refl hW
  have g0 := X.1.p3 k0
  refine z_xP zt96 0 1 [some (.ref a0), some (.int p1), none, none, none, none, none, none, none, none] [.ref a0] rfl rfl ?_
  refine z_xcV (vs := [.ref a0]) (r := []) (L2 := [some (.ref a0), none, none]) zt96 1 rfl zo96 zzcV3_90 (Or.inl rfl) rfl X k0 rfl rfl rfl (Nat.le_of_ble_eq_true rfl) zzm95 (Nat.le_of_ble_eq_true rfl) rfl ?_
  refine zUC95 X.1 k0 X.1 (hbk.ke X.2 (by decide)) (fun x4 M1 X2 h5 h6 h3 => ?_)
  have X7 := X.go X2 (z_sb (by decide))
  show z_ev (d + 2) 96 4 [some (.ref a0), some (.int p1), none, none, none, none, none, none, none, none] [.int x4] M1 _
  refine z_xP zt96 2 7 [some (.ref a0), some (.int p1), none, none, none, none, none, none, none, none] [.int 1023, .int x4] rfl rfl ?_
  refine z_xI zt96 3 rfl rfl (fun (x9 : Int32) (h10 : x9 = x4 &&& (1023 : Int32) ∧ 0 ≤ x9.toInt ∧ x9.toInt ≤ x4.toInt ∧ x9.toInt ≤ 1023) => ?_) (⟨rfl, z_pAnd2 rfl rfl (by omega) (by omega)⟩)
  refine z_xP zt96 4 10 [some (.ref a0), some (.int p1), some (.int x9), none, none, none, none, none, none, none] [.ref a0] rfl rfl ?_
  refine z_xgR (κ := .inl (2, q, t, m, 0)) zt96 5 rfl zo96 zzf3_39 X7 k0 (by decide) (by decide) rfl (fun (a12 : Nat) h11 k13 => ?_)
  have g14 := X7.1.p2 k13
  refine z_xP zt96 6 14 [some (.ref a0), some (.int p1), some (.int x9), none, none, none, none, none, none, none] [.int x9, .ref a12] rfl rfl ?_
  refine z_xcV (vs := [.ref a12, .int x9]) (r := []) (L2 := [some (.ref a12), some (.int x9)]) zt96 7 rfl zo96 zzcV3_94 (Or.inl rfl) rfl X7 k13 rfl rfl rfl (Nat.le_of_ble_eq_true rfl) zzm27 (Nat.le_of_ble_eq_true rfl) rfl ?_
  refine z_xP zt27 0 2 [some (.ref a12), some (.int x9)] [.int x9, .ref a12] rfl rfl ?_
  refine z_xcV (vs := [.ref a12, .int x9]) (r := []) (L2 := [some (.ref a12), some (.int x9)]) zt27 1 rfl zo27 zzcV2_76 (Or.inl rfl) rfl X7 k13 rfl rfl rfl (Nat.le_of_ble_eq_true rfl) zzm28 (Nat.le_of_ble_eq_true rfl) rfl ?_
  refine z_xP zt28 0 1 [some (.ref a12), some (.int x9)] [.int x9] rfl rfl ?_
  refine z_xZ zt28 1 rfl rfl (fun (h15 : x9.toInt < 0) => absurd h15 (by omega)) (fun (h15 : 0 ≤ x9.toInt) => ?_)
  refine z_xP zt28 2 6 [some (.ref a12), some (.int x9)] [.ref a12, .int x9] rfl rfl ?_
  refine z_xgI zt28 3 rfl zo28 zzf2_32 X7 k13 (by decide) (by decide) rfl (fun (x17 : Int32) h16 (h18 : ((z_po q : Nat) : Int) - 1 ≤ x17.toInt) (h19 : x17.toInt ≤ ((z_po q : Nat) : Int) - 1) => ?_)
  refine z_xJ zt28 4 rfl rfl (fun (h20 : x17.toInt < x9.toInt) => ?_) (fun (h20 : x9.toInt ≤ x17.toInt) => ?_)
  · skip
    refine z_xP zt28 6 17 [some (.ref a12), some (.int x9)] [.int 0] rfl rfl ?_
    refine z_xrz zt28 7 rfl zzr28 (by decide) (by decide) ?_
    show z_ev (d + 1) 27 5 [some (.ref a12), some (.int x9)] [.int 0] M1 _
    refine z_xZ zt27 2 rfl rfl (fun (h21 : (0 : Int) = 0) => ?_) (fun (h21 : (0 : Int) ≠ 0) => absurd h21 (by omega))
    refine z_xP zt27 17 34 [some (.ref a12), some (.int x9)] [.int 0] rfl rfl ?_
    refine z_xrz zt27 18 rfl zzr27 (by decide) (by decide) ?_
    show z_ev (d + 2) 96 17 [some (.ref a0), some (.int p1), some (.int x9), none, none, none, none, none, none, none] [.int 0] M1 _
    refine z_xZ zt96 8 rfl rfl (fun (h22 : (0 : Int) = 0) => ?_) (fun (h22 : (0 : Int) ≠ 0) => absurd h22 (by omega))
    refine z_xP zt96 11 23 [some (.ref a0), some (.int p1), some (.int x9), none, none, none, none, none, none, none] [.ref a0] rfl rfl ?_
    refine z_xcV (vs := [.ref a0]) (r := []) (L2 := [some (.ref a0), none, none]) zt96 12 rfl zo96 zzcV3_98 (Or.inl rfl) rfl X7 k0 rfl rfl rfl (Nat.le_of_ble_eq_true rfl) zzm70 (Nat.le_of_ble_eq_true rfl) rfl ?_
    refine zUC70 X7.1 k0 X7.1 (hbk.ke X7.2 (by decide)) ((congrFun (X2.2.a (hbk.k5 hW0 k0) (by decide)) 0).trans hz5) ((congrFun (X2.2.a (hbk.k6 hW0 k0) (by decide)) 0).trans hz6) (fun M23 X24 h25 => ?_)
    have X26 := X7.go X24 (z_sb (by decide))
    show z_ev (d + 2) 96 26 [some (.ref a0), some (.int p1), some (.int x9), none, none, none, none, none, none, none] [] M23 _
    refine z_xP zt96 13 30 [some (.ref a0), some (.int p1), some (.int x9), none, none, none, none, none, none, none] [.int 1023, .int p1] rfl rfl ?_
    refine z_xI zt96 14 rfl rfl (fun (x28 : Int32) (h29 : x28 = p1 &&& (1023 : Int32) ∧ 0 ≤ x28.toInt ∧ x28.toInt ≤ p1.toInt ∧ x28.toInt ≤ 1023) => ?_) (⟨rfl, z_pAnd2 rfl rfl (by omega) (by omega)⟩)
    refine z_xP zt96 15 36 [some (.ref a0), some (.int p1), some (.int x9), some (.int x28), none, none, none, none, none, none] [.int 10, .int p1, .int x28] rfl rfl ?_
    have h30 := z_b32 p1
    refine z_xI zt96 16 rfl rfl (fun (x31 : Int32) (h32 : x31 = p1 >>> ((10 : Int32) &&& 31) ∧ x31.toInt = p1.toInt / 1024) => ?_) (⟨rfl, z_pShr (c := 1024) 10 rfl rfl (by decide)⟩)
    refine z_xI zt96 17 rfl rfl (fun (x33 : Int32) (h34 : x33 = x28 ||| x31 ∧ 0 ≤ x33.toInt ∧ x33.toInt < 2097152 ∧ x28.toInt ≤ x33.toInt ∧ x31.toInt ≤ x33.toInt) => ?_) (⟨rfl, z_pOr 21 rfl rfl (by omega) (by omega) (by decide) (by omega) (by omega) (by decide)⟩)
    refine z_xP zt96 18 49 [some (.ref a0), some (.int p1), some (.int x9), some (.int x28), some (.int x33), some (.int (-1)), some (.int 0), some (.int 0), none, none] [] rfl rfl ?_
    have qm1 : (((-1) : Int32)).toInt = (-1) := rfl
    have q0 : ((0 : Int32)).toInt = 0 := rfl
    exact (zUB96 k0 u1 hW0 hbk hN0 hag hsa ksa hz5 hz6 hto hlb kk 2050) M23 x9 x28 x33 ((-1)) (0) (0) none none X26 ⟨by omega, by omega⟩ ⟨by omega, by omega⟩ ⟨by omega, by omega⟩ (by decide) (by decide) (by omega) (by have h := h25; unfold z_low at h ⊢; rw [X2.2.a (hbk.k4 hW0 k0) (by decide)] at h; exact h) h29.1 (by rw [h34.1, h29.1, h32.1]) (z_nofM0 rfl rfl) (by omega)
  refine z_xP zt28 5 17 [some (.ref a12), some (.int x9)] [.int 1] rfl rfl ?_
  refine z_xrz zt28 7 rfl zzr28 (by decide) (by decide) ?_
  show z_ev (d + 1) 27 5 [some (.ref a12), some (.int x9)] [.int 1] M1 _
  refine z_xZ zt27 2 rfl rfl (fun (h35 : (1 : Int) = 0) => absurd h35 (by omega)) (fun (h35 : (1 : Int) ≠ 0) => ?_)
  refine z_xP zt27 3 9 [some (.ref a12), some (.int x9)] [.ref a12] rfl rfl ?_
  refine z_xgR (κ := .inr (109, 1, z_bl q, 0, 0)) zt27 4 rfl zo27 zzf2_44 X7 k13 (by decide) (by decide) rfl (fun (a37 : Nat) h36 k38 => ?_)
  refine z_xP zt27 5 15 [some (.ref a12), some (.int x9)] [.int 6, .int x9, .ref a37] rfl rfl ?_
  refine z_xI zt27 6 rfl rfl (fun (x39 : Int32) (h40 : x39.toInt = x9.toInt / 64) => ?_) (z_pShr (c := 64) 6 rfl rfl (by decide))
  refine z_xllv zt27 7 rfl X7 k38 (by decide) (by omega) (by omega) (fun (y41 : Int64) h42 => ?_)
  refine z_xP zt27 8 20 [some (.ref a12), some (.int x9)] [.int 63, .int x9, .long y41] rfl rfl ?_
  refine z_xI zt27 9 rfl rfl (fun (x43 : Int32) (h44 : x43 = x9 &&& (63 : Int32) ∧ 0 ≤ x43.toInt ∧ x43.toInt ≤ x9.toInt ∧ x43.toInt ≤ 63) => ?_) (⟨rfl, z_pAnd2 rfl rfl (by omega) (by omega)⟩)
  refine z_xL zt27 10 rfl rfl (fun (y45 : Int64) (h46 : y45 = (y41.toUInt64 >>> (x43.toInt64.toUInt64 &&& Int64.toUInt64 63)).toInt64) => ?_) (rfl)
  refine z_xP zt27 11 23 [some (.ref a12), some (.int x9)] [.long 1, .long y45] rfl rfl ?_
  refine z_xL zt27 12 rfl rfl (fun (y47 : Int64) (h48 : y47 = y45 &&& 1) => ?_) (rfl)
  refine z_xP zt27 13 25 [some (.ref a12), some (.int x9)] [.long 0, .long y47] rfl rfl ?_
  refine z_xI zt27 14 rfl rfl (fun (x49 : Int32) (h50 : (x49.toInt < 0 ∧ y47.toInt < 0) ∨ (x49.toInt = 0 ∧ y47.toInt = 0) ∨ (0 < x49.toInt ∧ 0 < y47.toInt)) => ?_) (z_qCmp rfl rfl)
  refine z_xZ zt27 15 rfl rfl (fun (h51 : x49.toInt = 0) => ?_) (fun (h51 : x49.toInt ≠ 0) => ?_)
  · skip
    refine z_xP zt27 17 34 [some (.ref a12), some (.int x9)] [.int 0] rfl rfl ?_
    refine z_xrz zt27 18 rfl zzr27 (by decide) (by decide) ?_
    show z_ev (d + 2) 96 17 [some (.ref a0), some (.int p1), some (.int x9), none, none, none, none, none, none, none] [.int 0] M1 _
    refine z_xZ zt96 8 rfl rfl (fun (h52 : (0 : Int) = 0) => ?_) (fun (h52 : (0 : Int) ≠ 0) => absurd h52 (by omega))
    refine z_xP zt96 11 23 [some (.ref a0), some (.int p1), some (.int x9), none, none, none, none, none, none, none] [.ref a0] rfl rfl ?_
    refine z_xcV (vs := [.ref a0]) (r := []) (L2 := [some (.ref a0), none, none]) zt96 12 rfl zo96 zzcV3_98 (Or.inl rfl) rfl X7 k0 rfl rfl rfl (Nat.le_of_ble_eq_true rfl) zzm70 (Nat.le_of_ble_eq_true rfl) rfl ?_
    refine zUC70 X7.1 k0 X7.1 (hbk.ke X7.2 (by decide)) ((congrFun (X2.2.a (hbk.k5 hW0 k0) (by decide)) 0).trans hz5) ((congrFun (X2.2.a (hbk.k6 hW0 k0) (by decide)) 0).trans hz6) (fun M53 X54 h55 => ?_)
    have X56 := X7.go X54 (z_sb (by decide))
    show z_ev (d + 2) 96 26 [some (.ref a0), some (.int p1), some (.int x9), none, none, none, none, none, none, none] [] M53 _
    refine z_xP zt96 13 30 [some (.ref a0), some (.int p1), some (.int x9), none, none, none, none, none, none, none] [.int 1023, .int p1] rfl rfl ?_
    refine z_xI zt96 14 rfl rfl (fun (x58 : Int32) (h59 : x58 = p1 &&& (1023 : Int32) ∧ 0 ≤ x58.toInt ∧ x58.toInt ≤ p1.toInt ∧ x58.toInt ≤ 1023) => ?_) (⟨rfl, z_pAnd2 rfl rfl (by omega) (by omega)⟩)
    refine z_xP zt96 15 36 [some (.ref a0), some (.int p1), some (.int x9), some (.int x58), none, none, none, none, none, none] [.int 10, .int p1, .int x58] rfl rfl ?_
    have h60 := z_b32 p1
    refine z_xI zt96 16 rfl rfl (fun (x61 : Int32) (h62 : x61 = p1 >>> ((10 : Int32) &&& 31) ∧ x61.toInt = p1.toInt / 1024) => ?_) (⟨rfl, z_pShr (c := 1024) 10 rfl rfl (by decide)⟩)
    refine z_xI zt96 17 rfl rfl (fun (x63 : Int32) (h64 : x63 = x58 ||| x61 ∧ 0 ≤ x63.toInt ∧ x63.toInt < 2097152 ∧ x58.toInt ≤ x63.toInt ∧ x61.toInt ≤ x63.toInt) => ?_) (⟨rfl, z_pOr 21 rfl rfl (by omega) (by omega) (by decide) (by omega) (by omega) (by decide)⟩)
    refine z_xP zt96 18 49 [some (.ref a0), some (.int p1), some (.int x9), some (.int x58), some (.int x63), some (.int (-1)), some (.int 0), some (.int 0), none, none] [] rfl rfl ?_
    have qm1 : (((-1) : Int32)).toInt = (-1) := rfl
    have q0 : ((0 : Int32)).toInt = 0 := rfl
    exact (zUB96 k0 u1 hW0 hbk hN0 hag hsa ksa hz5 hz6 hto hlb kk 2050) M53 x9 x58 x63 ((-1)) (0) (0) none none X56 ⟨by omega, by omega⟩ ⟨by omega, by omega⟩ ⟨by omega, by omega⟩ (by decide) (by decide) (by omega) (by have h := h55; unfold z_low at h ⊢; rw [X2.2.a (hbk.k4 hW0 k0) (by decide)] at h; exact h) h59.1 (by rw [h64.1, h59.1, h62.1]) (z_nofM0 rfl rfl) (by omega)
  refine z_xP zt27 16 34 [some (.ref a12), some (.int x9)] [.int 1] rfl rfl ?_
  refine z_xrz zt27 18 rfl zzr27 (by decide) (by decide) ?_
  show z_ev (d + 2) 96 17 [some (.ref a0), some (.int p1), some (.int x9), none, none, none, none, none, none, none] [.int 1] M1 _
  refine z_xZ zt96 8 rfl rfl (fun (h65 : (1 : Int) = 0) => absurd h65 (by omega)) (fun (h65 : (1 : Int) ≠ 0) => ?_)
  refine z_xP zt96 9 21 [some (.ref a0), some (.int p1), some (.int x9), none, none, none, none, none, none, none] [.int x9] rfl rfl ?_
  have iN66 := z_rfe h11 (X7.2.f k0 (by decide) hN0)
  have h67 := h36
  rw [iN66] at h67
  have h68 := h42
  exact z_xri zt96 10 rfl zzr96 (kk x9 M1 X7 (by omega) (by omega) ⟨z_easy hag hsa hto hlb (by omega) h3 h10.1 (z_lawB hag ((X7.2.1 N 2 _ _ _ _ 9 hag.1 (by decide)).symm.trans h67) ((congrFun (X7.2.lg k38 (by decide)) _).symm.trans h68) ⟨by omega, by omega⟩ h40 h44.1 h46 h48 (by omega)), ⟨((congrFun (X2.2.a (hbk.k5 hW0 k0) (by decide)) 0).trans hz5), ((congrFun (X2.2.a (hbk.k6 hW0 k0) (by decide)) 0).trans hz6)⟩⟩)
