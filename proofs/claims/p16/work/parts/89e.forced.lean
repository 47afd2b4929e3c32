/-! forced of both sides -/
theorem zUB49 {T : List zK} {d : Nat} {K : Option Value → zH → Prop} {a0 : Nat} {q : Nat} {t : Nat} {m : Nat} {p1 : Int32} {uy un pr en : Nat} {B : Nat → Nat} {M0 : zH} (k0 : T[a0]? = some (.inl (2, q, t, m, 0))) (hag : z_AGO T M0 a0 q t m pr en B) (hd : p1.toInt = (uy : Int) + 1024 * (un : Int) ∧ uy < 1024 ∧ un < 1024) (hu : uy < 2 ^ q ∧ un < 2 ^ q) (kk : ∀ (x : Int32) (M1 : zH), z_X T zw49 M0 M1 → (-1) ≤ x.toInt → x.toInt ≤ 1048575 → z_imp B q uy un x.toInt → K (some (.int x)) M1) : ∀ n : Nat, (∀ (M : zH) (b2 : Int32) (b3 : Int32) (b4 : Int32) (o5 : Option Value) (o7 : Option Value) (o8 : Option Value), z_X T zw49 M0 M → 0 ≤ b2.toInt ∧ b2.toInt ≤ 1023 → 0 ≤ b3.toInt ∧ b3.toInt ≤ 1023 → 0 ≤ b4.toInt ∧ b4.toInt ≤ 16 → z_iw B q uy un b4.toInt.toNat 0 1 b2.toInt → z_iw B q uy un b4.toInt.toNat 0 0 b3.toInt → ((((0) * 3 + 1) * 17 + (16 - b4.toInt)) * 3 + 2) * 11 + (0) < (n : Int) → z_ev (d + 2) 49 7 [some (.ref a0), some (.int p1), some (.int b2), some (.int b3), some (.int b4), o5, none, o7, o8, none] [] M K) ∧ (∀ (M : zH) (b2 : Int32) (b3 : Int32) (b4 : Int32) (b5 : Int64) (b7 : Int32) (o8 : Option Value), z_X T zw49 M0 M → 0 ≤ b2.toInt ∧ b2.toInt ≤ 1023 → 0 ≤ b3.toInt ∧ b3.toInt ≤ 1023 → 0 ≤ b4.toInt ∧ b4.toInt ≤ 15 → 0 ≤ b7.toInt ∧ b7.toInt ≤ 10 → b4.toInt < ((z_sp m : Nat) : Int) → z_iw B q uy un b4.toInt.toNat b7.toInt.toNat 1 b2.toInt → z_iw B q uy un b4.toInt.toNat b7.toInt.toNat 0 b3.toInt → (∀ i, i < 64 → (b5.toBitVec.getLsbD i = true ↔ ∃ a, a < 2 ^ q ∧ B a = 0 ∧ z_lc B a = 64 * b4.toInt.toNat + i ∧ z_has a uy un)) → ((((0) * 3 + 1) * 17 + (16 - b4.toInt)) * 3 + 0) * 11 + (10 - b7.toInt) < (n : Int) → z_ev (d + 2) 49 28 [some (.ref a0), some (.int p1), some (.int b2), some (.int b3), some (.int b4), some (.long b5), none, some (.int b7), o8, none] [] M K) := by
  intro n
  induction n with
  | zero => exact ⟨(by intros; exfalso; omega), (by intros; exfalso; omega)⟩
  | succ n ih =>
    refine ⟨?_, ?_⟩
    · skip
      intro M b2 b3 b4 o5 o7 o8 X hh0 hh1 hh2 hY hN hE
      have g0 := X.1.p2 k0
      refine z_xP zt49 1 10 [some (.ref a0), some (.int p1), some (.int b2), some (.int b3), some (.int b4), o5, none, o7, o8, none] [.ref a0, .int b4] rfl rfl ?_
      refine z_xgI zt49 2 rfl zo49 zzf2_63 X k0 (by decide) (by decide) rfl (fun (x2 : Int32) h1 (h3 : ((z_sp m : Nat) : Int) ≤ x2.toInt) (h4 : x2.toInt ≤ ((z_sp m : Nat) : Int)) => ?_)
      refine z_xJ zt49 3 rfl rfl (fun (h5 : x2.toInt ≤ b4.toInt) => ?_) (fun (h5 : b4.toInt < x2.toInt) => ?_)
      · skip
        refine z_xP zt49 45 113 [some (.ref a0), some (.int p1), some (.int b2), some (.int b3), some (.int b4), o5, none, o7, o8, none] [.int b3, .int b2] rfl rfl ?_
        refine z_xI zt49 46 rfl rfl (fun (x6 : Int32) (h7 : x6 = b2 ||| b3 ∧ 0 ≤ x6.toInt ∧ x6.toInt < 1024 ∧ b2.toInt ≤ x6.toInt ∧ b3.toInt ≤ x6.toInt) => ?_) (⟨rfl, z_pOr 10 rfl rfl (by omega) (by omega) (by decide) (by omega) (by omega) (by decide)⟩)
        refine z_xZ zt49 47 rfl rfl (fun (h8 : x6.toInt ≠ 0) => ?_) (fun (h8 : x6.toInt = 0) => ?_)
        · skip
          refine z_xP zt49 50 122 [some (.ref a0), some (.int p1), some (.int b2), some (.int b3), some (.int b4), o5, none, o7, o8, none] [.int (-1), .int b3, .int b2] rfl rfl ?_
          refine z_xI zt49 51 rfl rfl (fun (x9 : Int32) (h10 : x9 = b3 ^^^ ((-1) : Int32)) => ?_) (rfl)
          refine z_xI zt49 52 rfl rfl (fun (x11 : Int32) (h12 : x11 = b2 &&& x9 ∧ 0 ≤ x11.toInt ∧ x11.toInt ≤ b2.toInt) => ?_) (⟨rfl, z_pAndL rfl (by omega)⟩)
          refine z_xP zt49 53 127 [some (.ref a0), some (.int p1), some (.int b2), some (.int b3), some (.int b4), o5, none, o7, o8, none] [.int (-1), .int b2, .int b3, .int x11] rfl rfl ?_
          refine z_xI zt49 54 rfl rfl (fun (x13 : Int32) (h14 : x13 = b2 ^^^ ((-1) : Int32)) => ?_) (rfl)
          refine z_xI zt49 55 rfl rfl (fun (x15 : Int32) (h16 : x15 = b3 &&& x13 ∧ 0 ≤ x15.toInt ∧ x15.toInt ≤ b3.toInt) => ?_) (⟨rfl, z_pAndL rfl (by omega)⟩)
          refine z_xP zt49 56 131 [some (.ref a0), some (.int p1), some (.int b2), some (.int b3), some (.int b4), o5, none, o7, o8, none] [.int 10, .int x15, .int x11] rfl rfl ?_
          refine z_xI zt49 57 rfl rfl (fun (x17 : Int32) (h18 : x17 = x15 <<< ((10 : Int32) &&& 31) ∧ x17.toInt = x15.toInt * 1024) => ?_) (⟨rfl, z_pShl 10 rfl rfl (by decide) (by decide) (by omega) rfl (by omega)⟩)
          refine z_xI zt49 58 rfl rfl (fun (x19 : Int32) (h20 : x19 = x11 ||| x17 ∧ 0 ≤ x19.toInt ∧ x19.toInt < 1048576 ∧ x11.toInt ≤ x19.toInt ∧ x17.toInt ≤ x19.toInt) => ?_) (⟨rfl, z_pOr 20 rfl rfl (by omega) (by omega) (by decide) (by omega) (by omega) (by decide)⟩)
          have hm21 := hag.2.2.1
          exact z_xri zt49 59 rfl zzr49 (kk x19 M X (by omega) (by omega) (z_imp1 hY hN hm21 (by omega) h7.1 (by omega) h10 h12.1 h14 h16.1 h18.1 h20.1))
        refine z_xP zt49 48 118 [some (.ref a0), some (.int p1), some (.int b2), some (.int b3), some (.int b4), o5, none, o7, o8, none] [.int (-1)] rfl rfl ?_
        have qm1 : (((-1) : Int32)).toInt = (-1) := rfl
        have hm22 := hag.2.2.1
        have qm1 : (((-1) : Int32)).toInt = (-1) := rfl
        exact z_xri zt49 49 rfl zzr49 (kk (-1) M X (by omega) (by omega) (z_imp0 hY hN hm22 (by omega) (by omega) h7.1 (by omega) (by omega)))
      refine z_xP zt49 4 20 [some (.ref a0), some (.int p1), some (.int b2), some (.int b3), some (.int b4), o5, none, o7, o8, none] [.int b4, .int p1, .ref a0] rfl rfl ?_
      refine z_xcV (vs := [.ref a0, .int p1, .int b4]) (r := []) (L2 := [some (.ref a0), some (.int p1), some (.int b4), none, none, none]) zt49 5 rfl zo49 zzcV2_83 (Or.inl rfl) rfl X k0 rfl rfl rfl (Nat.le_of_ble_eq_true rfl) zzm45 (Nat.le_of_ble_eq_true rfl) rfl ?_
      obtain ⟨-, -, hm23, -, -, -, -, -, -, ⟨ya24, e11_25, k11_26, f11_27⟩⟩ := hag
      refine zUC45 X.1 k0 (by omega) (by omega) hd (X.2.f k0 (by decide) e11_25) k11_26 (fun y31 M28 X29 h30 => ?_)
      have X32 := X.go X29 (z_sb (by decide))
      show z_ev (d + 2) 49 23 [some (.ref a0), some (.int p1), some (.int b2), some (.int b3), some (.int b4), o5, none, o7, o8, none] [.long y31] M28 _
      refine z_xP zt49 6 28 [some (.ref a0), some (.int p1), some (.int b2), some (.int b3), some (.int b4), some (.long y31), none, some (.int 0), o8, none] [] rfl rfl ?_
      rw [X.2.lg k11_26 (by decide)] at h30
      have i34 := z_gvS f11_27 hm23 g0.1.2.1 hu.1 hu.2 (by omega) h30
      have q0 : ((0 : Int32)).toInt = 0 := rfl
      exact ih.2 M28 b2 b3 b4 y31 (0) (o8) X32 ⟨by omega, by omega⟩ ⟨by omega, by omega⟩ ⟨by omega, by omega⟩ (by decide) (by omega) hY hN i34 (by omega)
    · skip
      intro M b2 b3 b4 b5 b7 o8 X hh0 hh1 hh2 hh3 hh4 hY hN hL hE
      have g0 := X.1.p2 k0
      refine z_xP zt49 7 31 [some (.ref a0), some (.int p1), some (.int b2), some (.int b3), some (.int b4), some (.long b5), none, some (.int b7), o8, none] [.ref a0, .int b7] rfl rfl ?_
      refine z_xgI zt49 8 rfl zo49 zzf2_15 X k0 (by decide) (by decide) rfl (fun (x2 : Int32) h1 (h3 : (q : Int) ≤ x2.toInt) (h4 : x2.toInt ≤ (q : Int)) => ?_)
      refine z_xJ zt49 9 rfl rfl (fun (h5 : x2.toInt ≤ b7.toInt) => ?_) (fun (h5 : b7.toInt < x2.toInt) => ?_)
      · skip
        refine z_xN zt49 43 rfl rfl (fun (x6 : Int32) (h7 : x6.toInt = b4.toInt + 1) => ?_) (z_pAdd rfl rfl (by omega) (by omega))
        show z_ev (d + 2) 49 108 [some (.ref a0), some (.int p1), some (.int b2), some (.int b3), some (.int x6), some (.long b5), none, some (.int b7), o8, none] [] M _
        refine z_xP zt49 44 7 [some (.ref a0), some (.int p1), some (.int b2), some (.int b3), some (.int x6), some (.long b5), none, some (.int b7), o8, none] [] rfl rfl ?_
        have i8 : x6.toInt.toNat = b4.toInt.toNat + 1 := by omega
        have i9 : x6.toInt.toNat = b4.toInt.toNat + 1 := by omega
        exact ih.1 M b2 b3 x6 (some (.long b5)) (some (.int b7)) (o8) X ⟨by omega, by omega⟩ ⟨by omega, by omega⟩ ⟨by omega, by omega⟩ (by rw [i8]; exact z_iwN hY (by omega)) (by rw [i9]; exact z_iwN hN (by omega)) (by omega)
      refine z_xP zt49 10 40 [some (.ref a0), some (.int p1), some (.int b2), some (.int b3), some (.int b4), some (.long b5), none, some (.int b7), o8, none] [.long 0, .long b5] rfl rfl ?_
      refine z_xI zt49 11 rfl rfl (fun (x10 : Int32) (h11 : (x10.toInt < 0 ∧ b5.toInt < 0) ∨ (x10.toInt = 0 ∧ b5.toInt = 0) ∨ (0 < x10.toInt ∧ 0 < b5.toInt)) => ?_) (z_qCmp rfl rfl)
      refine z_xZ zt49 12 rfl rfl (fun (h12 : x10.toInt = 0) => ?_) (fun (h12 : x10.toInt ≠ 0) => ?_)
      · skip
        refine z_xN zt49 43 rfl rfl (fun (x13 : Int32) (h14 : x13.toInt = b4.toInt + 1) => ?_) (z_pAdd rfl rfl (by omega) (by omega))
        show z_ev (d + 2) 49 108 [some (.ref a0), some (.int p1), some (.int b2), some (.int b3), some (.int x13), some (.long b5), none, some (.int b7), o8, none] [] M _
        refine z_xP zt49 44 7 [some (.ref a0), some (.int p1), some (.int b2), some (.int b3), some (.int x13), some (.long b5), none, some (.int b7), o8, none] [] rfl rfl ?_
        have i15 : x13.toInt.toNat = b4.toInt.toNat + 1 := by omega
        have i16 : x13.toInt.toNat = b4.toInt.toNat + 1 := by omega
        exact ih.1 M b2 b3 x13 (some (.long b5)) (some (.int b7)) (o8) X ⟨by omega, by omega⟩ ⟨by omega, by omega⟩ ⟨by omega, by omega⟩ (by rw [i15]; exact z_iwZ hY (z_imz hL (by omega))) (by rw [i16]; exact z_iwZ hN (z_imz hL (by omega))) (by omega)
      refine z_xP zt49 13 45 [some (.ref a0), some (.int p1), some (.int b2), some (.int b3), some (.int b4), some (.long b5), none, some (.int b7), o8, none] [.ref a0] rfl rfl ?_
      refine z_xgR (κ := .inr (111, 1, q * z_sp m, 0, 0)) zt49 14 rfl zo49 zzf2_66 X k0 (by decide) (by decide) rfl (fun (a18 : Nat) h17 k19 => ?_)
      refine z_xP zt49 15 51 [some (.ref a0), some (.int p1), some (.int b2), some (.int b3), some (.int b4), some (.long b5), none, some (.int b7), o8, none] [.ref a0, .int b7, .ref a18] rfl rfl ?_
      refine z_xgI zt49 16 rfl zo49 zzf2_63 X k0 (by decide) (by decide) rfl (fun (x21 : Int32) h20 (h22 : ((z_sp m : Nat) : Int) ≤ x21.toInt) (h23 : x21.toInt ≤ ((z_sp m : Nat) : Int)) => ?_)
      refine z_xI zt49 17 rfl rfl (fun (x24 : Int32) (h25 : x24.toInt = b7.toInt * x21.toInt ∧ 0 ≤ x24.toInt ∧ x24.toInt ≤ 144) => ?_) (z_pMulB (a := 9) (b := 16) rfl rfl (by omega) (by omega) (by omega) (by omega) (by decide) (by decide))
      refine z_xP zt49 18 57 [some (.ref a0), some (.int p1), some (.int b2), some (.int b3), some (.int b4), some (.long b5), none, some (.int b7), o8, none] [.int b4, .int x24, .ref a18] rfl rfl ?_
      refine z_xI zt49 19 rfl rfl (fun (x26 : Int32) (h27 : x26.toInt = x24.toInt + b4.toInt) => ?_) (z_pAdd rfl rfl (by omega) (by omega))
      have h28 := z_nlx (p := x24.toInt) (x := b7.toInt) (y := x21.toInt) (s := b4.toInt) (z := x26.toInt) (A := q) (B := z_sp m) (by omega) (by omega) (by omega) (by omega) (by omega) (by omega) (by omega)
      refine z_xllv zt49 20 rfl X k19 (by decide) h28.1 h28.2 (fun (y29 : Int64) h30 => ?_)
      refine z_xP zt49 21 65 [some (.ref a0), some (.int p1), some (.int b2), some (.int b3), some (.int b4), some (.long b5), none, some (.int b7), some (.long y29), none] [.long y29, .long b5] rfl rfl ?_
      refine z_xL zt49 22 rfl rfl (fun (y31 : Int64) (h32 : y31 = b5 &&& y29) => ?_) (rfl)
      refine z_xP zt49 23 67 [some (.ref a0), some (.int p1), some (.int b2), some (.int b3), some (.int b4), some (.long b5), none, some (.int b7), some (.long y29), none] [.long 0, .long y31] rfl rfl ?_
      refine z_xI zt49 24 rfl rfl (fun (x33 : Int32) (h34 : (x33.toInt < 0 ∧ y31.toInt < 0) ∨ (x33.toInt = 0 ∧ y31.toInt = 0) ∨ (0 < x33.toInt ∧ 0 < y31.toInt)) => ?_) (z_qCmp rfl rfl)
      refine z_xZ zt49 25 rfl rfl (fun (h35 : x33.toInt = 0) => ?_) (fun (h35 : x33.toInt ≠ 0) => ?_)
      · skip
        refine z_xP zt49 30 82 [some (.ref a0), some (.int p1), some (.int b2), some (.int b3), some (.int b4), some (.long b5), none, some (.int b7), some (.long y29), none] [.long y29, .long b5] rfl rfl ?_
        refine z_xl2 zt49 31 rfl zo49 zkl2_38 ?_
        refine z_xL zt49 32 rfl rfl (fun (y36 : Int64) (h37 : y36 = y29 ^^^ (-1)) => ?_) (rfl)
        refine z_xL zt49 33 rfl rfl (fun (y38 : Int64) (h39 : y38 = b5 &&& y36) => ?_) (rfl)
        refine z_xP zt49 34 88 [some (.ref a0), some (.int p1), some (.int b2), some (.int b3), some (.int b4), some (.long b5), none, some (.int b7), some (.long y29), none] [.long 0, .long y38] rfl rfl ?_
        refine z_xI zt49 35 rfl rfl (fun (x40 : Int32) (h41 : (x40.toInt < 0 ∧ y38.toInt < 0) ∨ (x40.toInt = 0 ∧ y38.toInt = 0) ∨ (0 < x40.toInt ∧ 0 < y38.toInt)) => ?_) (z_qCmp rfl rfl)
        refine z_xZ zt49 36 rfl rfl (fun (h42 : x40.toInt = 0) => ?_) (fun (h42 : x40.toInt ≠ 0) => ?_)
        · skip
          refine z_xN zt49 41 rfl rfl (fun (x43 : Int32) (h44 : x43.toInt = b7.toInt + 1) => ?_) (z_pAdd rfl rfl (by omega) (by omega))
          show z_ev (d + 2) 49 102 [some (.ref a0), some (.int p1), some (.int b2), some (.int b3), some (.int b4), some (.long b5), none, some (.int x43), some (.long y29), none] [] M _
          refine z_xP zt49 42 28 [some (.ref a0), some (.int p1), some (.int b2), some (.int b3), some (.int b4), some (.long b5), none, some (.int x43), some (.long y29), none] [] rfl rfl ?_
          obtain ⟨-, -, hm45, -, -, -, -, -, -, ⟨ya46, e11_47, k11_48, f11_49⟩⟩ := hag
          have i50 := z_ybw (z_kpL11 h17 (X.2.f k0 (by decide) e11_47) h30 (z_ixm (B := z_sp m) h25.1 (by omega) (by omega) h27 (by omega)) (X.2.lg k11_48 (by decide)))
          have i51 : x43.toInt.toNat = b7.toInt.toNat + 1 := by omega
          have i52 : x43.toInt.toNat = b7.toInt.toNat + 1 := by omega
          exact ih.2 M b2 b3 b4 b5 x43 (some (.long y29)) X ⟨by omega, by omega⟩ ⟨by omega, by omega⟩ ⟨by omega, by omega⟩ ⟨by omega, by omega⟩ (by omega) (by rw [i51]; exact z_iwA hY ((z_imY hL f11_49 i50 (by omega) (by omega) h32).mp (by omega))) (by rw [i52]; exact z_iwA hN ((z_imN hL f11_49 i50 (by omega) (by omega) h37 h39).mp (by omega))) hL (by omega)
        refine z_xP zt49 37 96 [some (.ref a0), some (.int p1), some (.int b2), some (.int b3), some (.int b4), some (.long b5), none, some (.int b7), some (.long y29), none] [.int b7, .int 1, .int b3] rfl rfl ?_
        refine z_xI zt49 38 rfl rfl (fun (x53 : Int32) (h54 : x53 = (1 : Int32) <<< (b7 &&& 31) ∧ 1 ≤ x53.toInt ∧ x53.toInt ≤ 512) => ?_) (⟨rfl, z_pShlB (a := 1) (b := 9) (c := 512) (r := 512) rfl rfl (by omega) (by omega) (by omega) (by omega) (by decide) (by decide) (by decide) (by decide)⟩)
        refine z_xI zt49 39 rfl rfl (fun (x55 : Int32) (h56 : x55 = b3 ||| x53 ∧ 0 ≤ x55.toInt ∧ x55.toInt < 1024 ∧ b3.toInt ≤ x55.toInt ∧ x53.toInt ≤ x55.toInt) => ?_) (⟨rfl, z_pOr 10 rfl rfl (by omega) (by omega) (by decide) (by omega) (by omega) (by decide)⟩)
        refine z_xP zt49 40 99 [some (.ref a0), some (.int p1), some (.int b2), some (.int x55), some (.int b4), some (.long b5), none, some (.int b7), some (.long y29), none] [] rfl rfl ?_
        refine z_xN zt49 41 rfl rfl (fun (x57 : Int32) (h58 : x57.toInt = b7.toInt + 1) => ?_) (z_pAdd rfl rfl (by omega) (by omega))
        show z_ev (d + 2) 49 102 [some (.ref a0), some (.int p1), some (.int b2), some (.int x55), some (.int b4), some (.long b5), none, some (.int x57), some (.long y29), none] [] M _
        refine z_xP zt49 42 28 [some (.ref a0), some (.int p1), some (.int b2), some (.int x55), some (.int b4), some (.long b5), none, some (.int x57), some (.long y29), none] [] rfl rfl ?_
        obtain ⟨-, -, hm59, -, -, -, -, -, -, ⟨ya60, e11_61, k11_62, f11_63⟩⟩ := hag
        have i64 := z_ybw (z_kpL11 h17 (X.2.f k0 (by decide) e11_61) h30 (z_ixm (B := z_sp m) h25.1 (by omega) (by omega) h27 (by omega)) (X.2.lg k11_62 (by decide)))
        have i65 : x57.toInt.toNat = b7.toInt.toNat + 1 := by omega
        have i66 : x57.toInt.toNat = b7.toInt.toNat + 1 := by omega
        exact ih.2 M b2 x55 b4 b5 x57 (some (.long y29)) X ⟨by omega, by omega⟩ ⟨by omega, by omega⟩ ⟨by omega, by omega⟩ ⟨by omega, by omega⟩ (by omega) (by rw [i65]; exact z_iwA hY ((z_imY hL f11_63 i64 (by omega) (by omega) h32).mp (by omega))) (by rw [i66]; exact z_iwC hN (Classical.byContradiction fun hn => absurd ((z_imN hL f11_63 i64 (by omega) (by omega) h37 h39).mpr hn) (by omega)) (by omega) g0.1.2.1 (by omega) h54.1 h56.1) hL (by omega)
      refine z_xP zt49 26 75 [some (.ref a0), some (.int p1), some (.int b2), some (.int b3), some (.int b4), some (.long b5), none, some (.int b7), some (.long y29), none] [.int b7, .int 1, .int b2] rfl rfl ?_
      refine z_xI zt49 27 rfl rfl (fun (x67 : Int32) (h68 : x67 = (1 : Int32) <<< (b7 &&& 31) ∧ 1 ≤ x67.toInt ∧ x67.toInt ≤ 512) => ?_) (⟨rfl, z_pShlB (a := 1) (b := 9) (c := 512) (r := 512) rfl rfl (by omega) (by omega) (by omega) (by omega) (by decide) (by decide) (by decide) (by decide)⟩)
      refine z_xI zt49 28 rfl rfl (fun (x69 : Int32) (h70 : x69 = b2 ||| x67 ∧ 0 ≤ x69.toInt ∧ x69.toInt < 1024 ∧ b2.toInt ≤ x69.toInt ∧ x67.toInt ≤ x69.toInt) => ?_) (⟨rfl, z_pOr 10 rfl rfl (by omega) (by omega) (by decide) (by omega) (by omega) (by decide)⟩)
      refine z_xP zt49 29 78 [some (.ref a0), some (.int p1), some (.int x69), some (.int b3), some (.int b4), some (.long b5), none, some (.int b7), some (.long y29), none] [] rfl rfl ?_
      refine z_xP zt49 30 82 [some (.ref a0), some (.int p1), some (.int x69), some (.int b3), some (.int b4), some (.long b5), none, some (.int b7), some (.long y29), none] [.long y29, .long b5] rfl rfl ?_
      refine z_xl2 zt49 31 rfl zo49 zkl2_38 ?_
      refine z_xL zt49 32 rfl rfl (fun (y71 : Int64) (h72 : y71 = y29 ^^^ (-1)) => ?_) (rfl)
      refine z_xL zt49 33 rfl rfl (fun (y73 : Int64) (h74 : y73 = b5 &&& y71) => ?_) (rfl)
      refine z_xP zt49 34 88 [some (.ref a0), some (.int p1), some (.int x69), some (.int b3), some (.int b4), some (.long b5), none, some (.int b7), some (.long y29), none] [.long 0, .long y73] rfl rfl ?_
      refine z_xI zt49 35 rfl rfl (fun (x75 : Int32) (h76 : (x75.toInt < 0 ∧ y73.toInt < 0) ∨ (x75.toInt = 0 ∧ y73.toInt = 0) ∨ (0 < x75.toInt ∧ 0 < y73.toInt)) => ?_) (z_qCmp rfl rfl)
      refine z_xZ zt49 36 rfl rfl (fun (h77 : x75.toInt = 0) => ?_) (fun (h77 : x75.toInt ≠ 0) => ?_)
      · skip
        refine z_xN zt49 41 rfl rfl (fun (x78 : Int32) (h79 : x78.toInt = b7.toInt + 1) => ?_) (z_pAdd rfl rfl (by omega) (by omega))
        show z_ev (d + 2) 49 102 [some (.ref a0), some (.int p1), some (.int x69), some (.int b3), some (.int b4), some (.long b5), none, some (.int x78), some (.long y29), none] [] M _
        refine z_xP zt49 42 28 [some (.ref a0), some (.int p1), some (.int x69), some (.int b3), some (.int b4), some (.long b5), none, some (.int x78), some (.long y29), none] [] rfl rfl ?_
        obtain ⟨-, -, hm80, -, -, -, -, -, -, ⟨ya81, e11_82, k11_83, f11_84⟩⟩ := hag
        have i85 := z_ybw (z_kpL11 h17 (X.2.f k0 (by decide) e11_82) h30 (z_ixm (B := z_sp m) h25.1 (by omega) (by omega) h27 (by omega)) (X.2.lg k11_83 (by decide)))
        have i86 : x78.toInt.toNat = b7.toInt.toNat + 1 := by omega
        have i87 : x78.toInt.toNat = b7.toInt.toNat + 1 := by omega
        exact ih.2 M x69 b3 b4 b5 x78 (some (.long y29)) X ⟨by omega, by omega⟩ ⟨by omega, by omega⟩ ⟨by omega, by omega⟩ ⟨by omega, by omega⟩ (by omega) (by rw [i86]; exact z_iwC hY (Classical.byContradiction fun hn => absurd ((z_imY hL f11_84 i85 (by omega) (by omega) h32).mpr hn) (by omega)) (by omega) g0.1.2.1 (by omega) h68.1 h70.1) (by rw [i87]; exact z_iwA hN ((z_imN hL f11_84 i85 (by omega) (by omega) h72 h74).mp (by omega))) hL (by omega)
      refine z_xP zt49 37 96 [some (.ref a0), some (.int p1), some (.int x69), some (.int b3), some (.int b4), some (.long b5), none, some (.int b7), some (.long y29), none] [.int b7, .int 1, .int b3] rfl rfl ?_
      refine z_xI zt49 38 rfl rfl (fun (x88 : Int32) (h89 : x88 = (1 : Int32) <<< (b7 &&& 31) ∧ 1 ≤ x88.toInt ∧ x88.toInt ≤ 512) => ?_) (⟨rfl, z_pShlB (a := 1) (b := 9) (c := 512) (r := 512) rfl rfl (by omega) (by omega) (by omega) (by omega) (by decide) (by decide) (by decide) (by decide)⟩)
      refine z_xI zt49 39 rfl rfl (fun (x90 : Int32) (h91 : x90 = b3 ||| x88 ∧ 0 ≤ x90.toInt ∧ x90.toInt < 1024 ∧ b3.toInt ≤ x90.toInt ∧ x88.toInt ≤ x90.toInt) => ?_) (⟨rfl, z_pOr 10 rfl rfl (by omega) (by omega) (by decide) (by omega) (by omega) (by decide)⟩)
      refine z_xP zt49 40 99 [some (.ref a0), some (.int p1), some (.int x69), some (.int x90), some (.int b4), some (.long b5), none, some (.int b7), some (.long y29), none] [] rfl rfl ?_
      refine z_xN zt49 41 rfl rfl (fun (x92 : Int32) (h93 : x92.toInt = b7.toInt + 1) => ?_) (z_pAdd rfl rfl (by omega) (by omega))
      show z_ev (d + 2) 49 102 [some (.ref a0), some (.int p1), some (.int x69), some (.int x90), some (.int b4), some (.long b5), none, some (.int x92), some (.long y29), none] [] M _
      refine z_xP zt49 42 28 [some (.ref a0), some (.int p1), some (.int x69), some (.int x90), some (.int b4), some (.long b5), none, some (.int x92), some (.long y29), none] [] rfl rfl ?_
      obtain ⟨-, -, hm94, -, -, -, -, -, -, ⟨ya95, e11_96, k11_97, f11_98⟩⟩ := hag
      have i99 := z_ybw (z_kpL11 h17 (X.2.f k0 (by decide) e11_96) h30 (z_ixm (B := z_sp m) h25.1 (by omega) (by omega) h27 (by omega)) (X.2.lg k11_97 (by decide)))
      have i100 : x92.toInt.toNat = b7.toInt.toNat + 1 := by omega
      have i101 : x92.toInt.toNat = b7.toInt.toNat + 1 := by omega
      exact ih.2 M x69 x90 b4 b5 x92 (some (.long y29)) X ⟨by omega, by omega⟩ ⟨by omega, by omega⟩ ⟨by omega, by omega⟩ ⟨by omega, by omega⟩ (by omega) (by rw [i100]; exact z_iwC hY (Classical.byContradiction fun hn => absurd ((z_imY hL f11_98 i99 (by omega) (by omega) h32).mpr hn) (by omega)) (by omega) g0.1.2.1 (by omega) h68.1 h70.1) (by rw [i101]; exact z_iwC hN (Classical.byContradiction fun hn => absurd ((z_imN hL f11_98 i99 (by omega) (by omega) h72 h74).mpr hn) (by omega)) (by omega) g0.1.2.1 (by omega) h89.1 h91.1) hL (by omega)
theorem zUC49 {T : List zK} {d : Nat} {K : Option Value → zH → Prop} {a0 : Nat} {q : Nat} {t : Nat} {m : Nat} {p1 : Int32} {uy un pr en : Nat} {B : Nat → Nat} {M0 : zH} (hW : z_W M0 T) (k0 : T[a0]? = some (.inl (2, q, t, m, 0))) (hag : z_AGO T M0 a0 q t m pr en B) (hd : p1.toInt = (uy : Int) + 1024 * (un : Int) ∧ uy < 1024 ∧ un < 1024) (hu : uy < 2 ^ q ∧ un < 2 ^ q) (kk : ∀ (x : Int32) (M1 : zH), z_X T zw49 M0 M1 → (-1) ≤ x.toInt → x.toInt ≤ 1048575 → z_imp B q uy un x.toInt → K (some (.int x)) M1) : z_ev (d + 2) 49 0 [some (.ref a0), some (.int p1), none, none, none, none, none, none, none, none] [] M0 K := by
  have X : z_X T zw49 M0 M0 := .refl hW
  have g0 := X.1.p2 k0
  refine z_xP zt49 0 7 [some (.ref a0), some (.int p1), some (.int 0), some (.int 0), some (.int 0), none, none, none, none, none] [] rfl rfl ?_
  have q0 : ((0 : Int32)).toInt = 0 := rfl
  exact (zUB49 k0 hag hd hu kk 1683).1 M0 (0) (0) (0) none none none X (by decide) (by decide) (by decide) (z_iw0 (x0 := 0) rfl rfl) (z_iw0 (x0 := 0) rfl rfl) (by omega)
theorem zUC47 {T : List zK} {d : Nat} {K : Option Value → zH → Prop} {p1 : Int32} {p2 : Int32} {p3 : Int32} {p4 : Int32} {M0 : zH} (hW : z_W M0 T) (hR6 : z_R6 T M0) (hG : z_GG T M0) (kk : ∀ (x : Int32) (M1 : zH), z_X T zw47 M0 M1 → (-3) ≤ x.toInt → x.toInt ≤ 1 → z_qA T M0 p1 x.toInt (fun q t m pr en B => (x.toInt = -1 ∧ ¬ (z_ans q p2 p3 ∧ 0 ≤ p4.toInt ∧ p4.toInt < (q : Int))) ∨ ((z_ans q p2 p3 ∧ 0 ≤ p4.toInt ∧ p4.toInt < (q : Int)) ∧ z_fo B q p2.toInt.toNat p3.toInt.toNat p4.toInt.toNat x.toInt)) → K (some (.int x)) M1) : z_ev (d + 3) 47 0 [some (.ref 4), some (.int p1), some (.int p2), some (.int p3), some (.int p4), none, none] [] M0 K := by
  have X : z_X T zw47 M0 M0 := .refl hW
  refine z_xP zt47 0 2 [some (.ref 4), some (.int p1), some (.int p2), some (.int p3), some (.int p4), none, none] [.int p1, .ref 4] rfl rfl ?_
  have f4 : T[4]? = some (.inl (0, 0, 0, 0, 0)) := X.1.k rfl (by decide)
  refine z_xcV (vs := [.ref 4, .int p1]) (r := []) (L2 := [some (.ref 4), some (.int p1)]) zt47 1 rfl zo47 zzcV0_108 (Or.inl rfl) rfl X f4 rfl rfl rfl (Nat.le_of_ble_eq_true rfl) zzm37 (Nat.le_of_ble_eq_true rfl) rfl ?_
  refine z_xP zt37 0 1 [some (.ref 4), some (.int p1)] [.int p1] rfl rfl ?_
  refine z_xZ zt37 1 rfl rfl (fun (h1 : p1.toInt < 0) => ?_) (fun (h1 : 0 ≤ p1.toInt) => ?_)
  · skip
    refine z_xP zt37 5 25 [some (.ref 4), some (.int p1)] [.null] rfl rfl ?_
    refine z_xrn zt37 11 rfl zzr37 ?_
    show z_ev (d + 3) 47 5 [some (.ref 4), some (.int p1), some (.int p2), some (.int p3), some (.int p4), none, none] [.null] M0 _
    refine z_xP zt47 2 32 [some (.ref 4), some (.int p1), some (.int p2), some (.int p3), some (.int p4), some (.null), none] [] rfl rfl ?_
    refine z_xP zt47 9 33 [some (.ref 4), some (.int p1), some (.int p2), some (.int p3), some (.int p4), some (.null), none] [.int (-1)] rfl rfl ?_
    have qm1 : (((-1) : Int32)).toInt = (-1) := rfl
    obtain ⟨x2, h3, h4, h5⟩ := z_W.fi X.1 f4 (k := 3) (lo := 0) (hi := 8) (by decide) rfl
    have qm1 : (((-1) : Int32)).toInt = (-1) := rfl
    exact z_xri zt47 10 rfl zzr47 (kk (-1) M0 X (by omega) (by omega) (z_qA0 h3 (by omega) (by omega)))
  refine z_xP zt37 2 6 [some (.ref 4), some (.int p1)] [.ref 4, .int p1] rfl rfl ?_
  refine z_xgI zt37 3 rfl zo37 zzf0_59 X f4 (by decide) (by decide) rfl (fun (x7 : Int32) h6 (h8 : 0 ≤ x7.toInt) (h9 : x7.toInt ≤ 8) => ?_)
  have h10 := z_b32 p1
  refine z_xJ zt37 4 rfl rfl (fun (h11 : p1.toInt < x7.toInt) => ?_) (fun (h11 : x7.toInt ≤ p1.toInt) => ?_)
  · skip
    refine z_xP zt37 6 17 [some (.ref 4), some (.int p1)] [.ref 4] rfl rfl ?_
    refine z_xgX (b := 10) zt37 7 rfl zo37 zzf0_18 X f4 (by decide) (by decide) rfl ?_
    refine z_xP zt37 8 21 [some (.ref 4), some (.int p1)] [.int p1, .ref 10] rfl rfl ?_
    have f10 : T[10]? = some (.inr (10, 2, 8, 9, 0)) := X.1.k rfl (by decide)
    refine z_xal zt37 9 rfl X f10 (by decide) (by decide) (by decide) (by omega) (by omega) (fun (a12 : Nat) h13 h14 => ?_) (fun h15 => absurd h15 (z_Gs (hG.go X (by decide)).2.1 h6 (by omega) (by omega)))
    obtain ⟨q16, t17, m18, k19⟩ : ∃ q t m, T[a12]? = some (.inl (3, q, t, m, 9)) := h14
    have g20 := X.1.p3 k19
    refine z_xgR (κ := .inl (2, q16, t17, m18, 0)) zt37 10 rfl zo37 zzf0_89 X k19 (by decide) (by decide) rfl (fun (a22 : Nat) h21 k23 => ?_)
    have g24 := X.1.p2 k23
    refine z_xra zt37 11 rfl zzr37 ?_
    show z_ev (d + 3) 47 5 [some (.ref 4), some (.int p1), some (.int p2), some (.int p3), some (.int p4), none, none] [.ref a22] M0 _
    refine z_xP zt47 2 12 [some (.ref 4), some (.int p1), some (.int p2), some (.int p3), some (.int p4), some (.ref a22), none] [] rfl rfl ?_
    refine z_xP zt47 3 16 [some (.ref 4), some (.int p1), some (.int p2), some (.int p3), some (.int p4), some (.ref a22), none] [.int p3, .int p2, .ref a22] rfl rfl ?_
    refine z_xcV (vs := [.ref a22, .int p2, .int p3]) (r := []) (L2 := [some (.ref a22), some (.int p2), some (.int p3)]) zt47 4 rfl zo47 zzcV0_123 (Or.inl rfl) rfl X k23 rfl rfl rfl (Nat.le_of_ble_eq_true rfl) zzm43 (Nat.le_of_ble_eq_true rfl) rfl ?_
    refine z_xP zt43 0 2 [some (.ref a22), some (.int p2), some (.int p3)] [.int p2, .ref a22] rfl rfl ?_
    refine z_xcV (vs := [.ref a22, .int p2]) (r := []) (L2 := [some (.ref a22), some (.int p2)]) zt43 1 rfl zo43 zzcV2_76 (Or.inl rfl) rfl X k23 rfl rfl rfl (Nat.le_of_ble_eq_true rfl) zzm28 (Nat.le_of_ble_eq_true rfl) rfl ?_
    refine z_xP zt28 0 1 [some (.ref a22), some (.int p2)] [.int p2] rfl rfl ?_
    refine z_xZ zt28 1 rfl rfl (fun (h25 : p2.toInt < 0) => ?_) (fun (h25 : 0 ≤ p2.toInt) => ?_)
    · skip
      refine z_xP zt28 6 17 [some (.ref a22), some (.int p2)] [.int 0] rfl rfl ?_
      refine z_xrz zt28 7 rfl zzr28 (by decide) (by decide) ?_
      show z_ev (d + 2) 43 5 [some (.ref a22), some (.int p2), some (.int p3)] [.int 0] M0 _
      refine z_xZ zt43 2 rfl rfl (fun (h26 : (0 : Int) = 0) => ?_) (fun (h26 : (0 : Int) ≠ 0) => absurd h26 (by omega))
      refine z_xP zt43 10 27 [some (.ref a22), some (.int p2), some (.int p3)] [.int 0] rfl rfl ?_
      refine z_xrz zt43 11 rfl zzr43 (by decide) (by decide) ?_
      show z_ev (d + 3) 47 19 [some (.ref 4), some (.int p1), some (.int p2), some (.int p3), some (.int p4), some (.ref a22), none] [.int 0] M0 _
      refine z_xZ zt47 5 rfl rfl (fun (h27 : (0 : Int) = 0) => ?_) (fun (h27 : (0 : Int) ≠ 0) => absurd h27 (by omega))
      refine z_xP zt47 9 33 [some (.ref 4), some (.int p1), some (.int p2), some (.int p3), some (.int p4), some (.ref a22), none] [.int (-1)] rfl rfl ?_
      have qm1 : (((-1) : Int32)).toInt = (-1) := rfl
      obtain ⟨pr28, en29, B30, hAB31⟩ := hR6.at h6 (by omega) (by omega) h13 k19 h21
      have qm1 : (((-1) : Int32)).toInt = (-1) := rfl
      exact z_xri zt47 10 rfl zzr47 (kk (-1) M0 X (by omega) (by omega) (z_qA1 h6 ⟨by omega, by omega⟩ hAB31 (Or.inl ⟨by omega, fun h => by obtain ⟨⟨h1, h2, -⟩, -, -⟩ := h; unfold z_po at *; omega⟩)))
    refine z_xP zt28 2 6 [some (.ref a22), some (.int p2)] [.ref a22, .int p2] rfl rfl ?_
    refine z_xgI zt28 3 rfl zo28 zzf2_32 X k23 (by decide) (by decide) rfl (fun (x33 : Int32) h32 (h34 : ((z_po q16 : Nat) : Int) - 1 ≤ x33.toInt) (h35 : x33.toInt ≤ ((z_po q16 : Nat) : Int) - 1) => ?_)
    have h36 := z_b32 p2
    refine z_xJ zt28 4 rfl rfl (fun (h37 : x33.toInt < p2.toInt) => ?_) (fun (h37 : p2.toInt ≤ x33.toInt) => ?_)
    · skip
      refine z_xP zt28 6 17 [some (.ref a22), some (.int p2)] [.int 0] rfl rfl ?_
      refine z_xrz zt28 7 rfl zzr28 (by decide) (by decide) ?_
      show z_ev (d + 2) 43 5 [some (.ref a22), some (.int p2), some (.int p3)] [.int 0] M0 _
      refine z_xZ zt43 2 rfl rfl (fun (h38 : (0 : Int) = 0) => ?_) (fun (h38 : (0 : Int) ≠ 0) => absurd h38 (by omega))
      refine z_xP zt43 10 27 [some (.ref a22), some (.int p2), some (.int p3)] [.int 0] rfl rfl ?_
      refine z_xrz zt43 11 rfl zzr43 (by decide) (by decide) ?_
      show z_ev (d + 3) 47 19 [some (.ref 4), some (.int p1), some (.int p2), some (.int p3), some (.int p4), some (.ref a22), none] [.int 0] M0 _
      refine z_xZ zt47 5 rfl rfl (fun (h39 : (0 : Int) = 0) => ?_) (fun (h39 : (0 : Int) ≠ 0) => absurd h39 (by omega))
      refine z_xP zt47 9 33 [some (.ref 4), some (.int p1), some (.int p2), some (.int p3), some (.int p4), some (.ref a22), none] [.int (-1)] rfl rfl ?_
      have qm1 : (((-1) : Int32)).toInt = (-1) := rfl
      obtain ⟨pr40, en41, B42, hAB43⟩ := hR6.at h6 (by omega) (by omega) h13 k19 h21
      have qm1 : (((-1) : Int32)).toInt = (-1) := rfl
      exact z_xri zt47 10 rfl zzr47 (kk (-1) M0 X (by omega) (by omega) (z_qA1 h6 ⟨by omega, by omega⟩ hAB43 (Or.inl ⟨by omega, fun h => by obtain ⟨⟨h1, h2, -⟩, -, -⟩ := h; unfold z_po at *; omega⟩)))
    refine z_xP zt28 5 17 [some (.ref a22), some (.int p2)] [.int 1] rfl rfl ?_
    refine z_xrz zt28 7 rfl zzr28 (by decide) (by decide) ?_
    show z_ev (d + 2) 43 5 [some (.ref a22), some (.int p2), some (.int p3)] [.int 1] M0 _
    refine z_xZ zt43 2 rfl rfl (fun (h44 : (1 : Int) = 0) => absurd h44 (by omega)) (fun (h44 : (1 : Int) ≠ 0) => ?_)
    refine z_xP zt43 3 10 [some (.ref a22), some (.int p2), some (.int p3)] [.int p3, .ref a22] rfl rfl ?_
    refine z_xcV (vs := [.ref a22, .int p3]) (r := []) (L2 := [some (.ref a22), some (.int p3)]) zt43 4 rfl zo43 zzcV2_76 (Or.inl rfl) rfl X k23 rfl rfl rfl (Nat.le_of_ble_eq_true rfl) zzm28 (Nat.le_of_ble_eq_true rfl) rfl ?_
    refine z_xP zt28 0 1 [some (.ref a22), some (.int p3)] [.int p3] rfl rfl ?_
    refine z_xZ zt28 1 rfl rfl (fun (h45 : p3.toInt < 0) => ?_) (fun (h45 : 0 ≤ p3.toInt) => ?_)
    · skip
      refine z_xP zt28 6 17 [some (.ref a22), some (.int p3)] [.int 0] rfl rfl ?_
      refine z_xrz zt28 7 rfl zzr28 (by decide) (by decide) ?_
      show z_ev (d + 2) 43 13 [some (.ref a22), some (.int p2), some (.int p3)] [.int 0] M0 _
      refine z_xZ zt43 5 rfl rfl (fun (h46 : (0 : Int) = 0) => ?_) (fun (h46 : (0 : Int) ≠ 0) => absurd h46 (by omega))
      refine z_xP zt43 10 27 [some (.ref a22), some (.int p2), some (.int p3)] [.int 0] rfl rfl ?_
      refine z_xrz zt43 11 rfl zzr43 (by decide) (by decide) ?_
      show z_ev (d + 3) 47 19 [some (.ref 4), some (.int p1), some (.int p2), some (.int p3), some (.int p4), some (.ref a22), none] [.int 0] M0 _
      refine z_xZ zt47 5 rfl rfl (fun (h47 : (0 : Int) = 0) => ?_) (fun (h47 : (0 : Int) ≠ 0) => absurd h47 (by omega))
      refine z_xP zt47 9 33 [some (.ref 4), some (.int p1), some (.int p2), some (.int p3), some (.int p4), some (.ref a22), none] [.int (-1)] rfl rfl ?_
      have qm1 : (((-1) : Int32)).toInt = (-1) := rfl
      obtain ⟨pr48, en49, B50, hAB51⟩ := hR6.at h6 (by omega) (by omega) h13 k19 h21
      have qm1 : (((-1) : Int32)).toInt = (-1) := rfl
      exact z_xri zt47 10 rfl zzr47 (kk (-1) M0 X (by omega) (by omega) (z_qA1 h6 ⟨by omega, by omega⟩ hAB51 (Or.inl ⟨by omega, fun h => by obtain ⟨⟨h1, h2, -⟩, -, -⟩ := h; unfold z_po at *; omega⟩)))
    refine z_xP zt28 2 6 [some (.ref a22), some (.int p3)] [.ref a22, .int p3] rfl rfl ?_
    refine z_xgv zt28 3 rfl zo28 zzf2_32 X k23 (by decide) h32 ?_
    have h52 := z_b32 p3
    refine z_xJ zt28 4 rfl rfl (fun (h53 : x33.toInt < p3.toInt) => ?_) (fun (h53 : p3.toInt ≤ x33.toInt) => ?_)
    · skip
      refine z_xP zt28 6 17 [some (.ref a22), some (.int p3)] [.int 0] rfl rfl ?_
      refine z_xrz zt28 7 rfl zzr28 (by decide) (by decide) ?_
      show z_ev (d + 2) 43 13 [some (.ref a22), some (.int p2), some (.int p3)] [.int 0] M0 _
      refine z_xZ zt43 5 rfl rfl (fun (h54 : (0 : Int) = 0) => ?_) (fun (h54 : (0 : Int) ≠ 0) => absurd h54 (by omega))
      refine z_xP zt43 10 27 [some (.ref a22), some (.int p2), some (.int p3)] [.int 0] rfl rfl ?_
      refine z_xrz zt43 11 rfl zzr43 (by decide) (by decide) ?_
      show z_ev (d + 3) 47 19 [some (.ref 4), some (.int p1), some (.int p2), some (.int p3), some (.int p4), some (.ref a22), none] [.int 0] M0 _
      refine z_xZ zt47 5 rfl rfl (fun (h55 : (0 : Int) = 0) => ?_) (fun (h55 : (0 : Int) ≠ 0) => absurd h55 (by omega))
      refine z_xP zt47 9 33 [some (.ref 4), some (.int p1), some (.int p2), some (.int p3), some (.int p4), some (.ref a22), none] [.int (-1)] rfl rfl ?_
      have qm1 : (((-1) : Int32)).toInt = (-1) := rfl
      obtain ⟨pr56, en57, B58, hAB59⟩ := hR6.at h6 (by omega) (by omega) h13 k19 h21
      have qm1 : (((-1) : Int32)).toInt = (-1) := rfl
      exact z_xri zt47 10 rfl zzr47 (kk (-1) M0 X (by omega) (by omega) (z_qA1 h6 ⟨by omega, by omega⟩ hAB59 (Or.inl ⟨by omega, fun h => by obtain ⟨⟨h1, h2, -⟩, -, -⟩ := h; unfold z_po at *; omega⟩)))
    refine z_xP zt28 5 17 [some (.ref a22), some (.int p3)] [.int 1] rfl rfl ?_
    refine z_xrz zt28 7 rfl zzr28 (by decide) (by decide) ?_
    show z_ev (d + 2) 43 13 [some (.ref a22), some (.int p2), some (.int p3)] [.int 1] M0 _
    refine z_xZ zt43 5 rfl rfl (fun (h60 : (1 : Int) = 0) => absurd h60 (by omega)) (fun (h60 : (1 : Int) ≠ 0) => ?_)
    refine z_xP zt43 6 18 [some (.ref a22), some (.int p2), some (.int p3)] [.int p3, .int p2] rfl rfl ?_
    refine z_xI zt43 7 rfl rfl (fun (x61 : Int32) (h62 : x61 = p2 &&& p3 ∧ 0 ≤ x61.toInt ∧ x61.toInt ≤ p2.toInt ∧ x61.toInt ≤ p3.toInt) => ?_) (⟨rfl, z_pAnd2 rfl rfl (by omega) (by omega)⟩)
    refine z_xZ zt43 8 rfl rfl (fun (h63 : x61.toInt ≠ 0) => ?_) (fun (h63 : x61.toInt = 0) => ?_)
    · skip
      refine z_xP zt43 10 27 [some (.ref a22), some (.int p2), some (.int p3)] [.int 0] rfl rfl ?_
      refine z_xrz zt43 11 rfl zzr43 (by decide) (by decide) ?_
      show z_ev (d + 3) 47 19 [some (.ref 4), some (.int p1), some (.int p2), some (.int p3), some (.int p4), some (.ref a22), none] [.int 0] M0 _
      refine z_xZ zt47 5 rfl rfl (fun (h64 : (0 : Int) = 0) => ?_) (fun (h64 : (0 : Int) ≠ 0) => absurd h64 (by omega))
      refine z_xP zt47 9 33 [some (.ref 4), some (.int p1), some (.int p2), some (.int p3), some (.int p4), some (.ref a22), none] [.int (-1)] rfl rfl ?_
      have qm1 : (((-1) : Int32)).toInt = (-1) := rfl
      obtain ⟨pr65, en66, B67, hAB68⟩ := hR6.at h6 (by omega) (by omega) h13 k19 h21
      have qm1 : (((-1) : Int32)).toInt = (-1) := rfl
      exact z_xri zt47 10 rfl zzr47 (kk (-1) M0 X (by omega) (by omega) (z_qA1 h6 ⟨by omega, by omega⟩ hAB68 (Or.inl ⟨by omega, fun h => by obtain ⟨⟨-, -, h3⟩, h4, h5⟩ := h; rw [← h62.1] at h3; omega⟩)))
    refine z_xP zt43 9 27 [some (.ref a22), some (.int p2), some (.int p3)] [.int 1] rfl rfl ?_
    refine z_xrz zt43 11 rfl zzr43 (by decide) (by decide) ?_
    show z_ev (d + 3) 47 19 [some (.ref 4), some (.int p1), some (.int p2), some (.int p3), some (.int p4), some (.ref a22), none] [.int 1] M0 _
    refine z_xZ zt47 5 rfl rfl (fun (h69 : (1 : Int) = 0) => absurd h69 (by omega)) (fun (h69 : (1 : Int) ≠ 0) => ?_)
    refine z_xP zt47 6 26 [some (.ref 4), some (.int p1), some (.int p2), some (.int p3), some (.int p4), some (.ref a22), none] [.int p4, .ref a22] rfl rfl ?_
    refine z_xcV (vs := [.ref a22, .int p4]) (r := []) (L2 := [some (.ref a22), some (.int p4)]) zt47 7 rfl zo47 zzcV0_129 (Or.inl rfl) rfl X k23 rfl rfl rfl (Nat.le_of_ble_eq_true rfl) zzm48 (Nat.le_of_ble_eq_true rfl) rfl ?_
    refine z_xP zt48 0 1 [some (.ref a22), some (.int p4)] [.int p4] rfl rfl ?_
    refine z_xZ zt48 1 rfl rfl (fun (h70 : p4.toInt < 0) => ?_) (fun (h70 : 0 ≤ p4.toInt) => ?_)
    · skip
      refine z_xP zt48 6 17 [some (.ref a22), some (.int p4)] [.int 0] rfl rfl ?_
      refine z_xrz zt48 7 rfl zzr48 (by decide) (by decide) ?_
      show z_ev (d + 3) 47 29 [some (.ref 4), some (.int p1), some (.int p2), some (.int p3), some (.int p4), some (.ref a22), none] [.int 0] M0 _
      refine z_xZ zt47 8 rfl rfl (fun (h71 : (0 : Int) ≠ 0) => absurd h71 (by omega)) (fun (h71 : (0 : Int) = 0) => ?_)
      refine z_xP zt47 9 33 [some (.ref 4), some (.int p1), some (.int p2), some (.int p3), some (.int p4), some (.ref a22), none] [.int (-1)] rfl rfl ?_
      have qm1 : (((-1) : Int32)).toInt = (-1) := rfl
      obtain ⟨pr72, en73, B74, hAB75⟩ := hR6.at h6 (by omega) (by omega) h13 k19 h21
      have qm1 : (((-1) : Int32)).toInt = (-1) := rfl
      exact z_xri zt47 10 rfl zzr47 (kk (-1) M0 X (by omega) (by omega) (z_qA1 h6 ⟨by omega, by omega⟩ hAB75 (Or.inl ⟨by omega, fun h => by obtain ⟨⟨-, -, h3⟩, h4, h5⟩ := h; rw [← h62.1] at h3; omega⟩)))
    refine z_xP zt48 2 6 [some (.ref a22), some (.int p4)] [.ref a22, .int p4] rfl rfl ?_
    refine z_xgI zt48 3 rfl zo48 zzf2_15 X k23 (by decide) (by decide) rfl (fun (x77 : Int32) h76 (h78 : (q16 : Int) ≤ x77.toInt) (h79 : x77.toInt ≤ (q16 : Int)) => ?_)
    have h80 := z_b32 p4
    refine z_xJ zt48 4 rfl rfl (fun (h81 : x77.toInt ≤ p4.toInt) => ?_) (fun (h81 : p4.toInt < x77.toInt) => ?_)
    · skip
      refine z_xP zt48 6 17 [some (.ref a22), some (.int p4)] [.int 0] rfl rfl ?_
      refine z_xrz zt48 7 rfl zzr48 (by decide) (by decide) ?_
      show z_ev (d + 3) 47 29 [some (.ref 4), some (.int p1), some (.int p2), some (.int p3), some (.int p4), some (.ref a22), none] [.int 0] M0 _
      refine z_xZ zt47 8 rfl rfl (fun (h82 : (0 : Int) ≠ 0) => absurd h82 (by omega)) (fun (h82 : (0 : Int) = 0) => ?_)
      refine z_xP zt47 9 33 [some (.ref 4), some (.int p1), some (.int p2), some (.int p3), some (.int p4), some (.ref a22), none] [.int (-1)] rfl rfl ?_
      have qm1 : (((-1) : Int32)).toInt = (-1) := rfl
      obtain ⟨pr83, en84, B85, hAB86⟩ := hR6.at h6 (by omega) (by omega) h13 k19 h21
      have qm1 : (((-1) : Int32)).toInt = (-1) := rfl
      exact z_xri zt47 10 rfl zzr47 (kk (-1) M0 X (by omega) (by omega) (z_qA1 h6 ⟨by omega, by omega⟩ hAB86 (Or.inl ⟨by omega, fun h => by obtain ⟨⟨-, -, h3⟩, h4, h5⟩ := h; rw [← h62.1] at h3; omega⟩)))
    refine z_xP zt48 5 17 [some (.ref a22), some (.int p4)] [.int 1] rfl rfl ?_
    refine z_xrz zt48 7 rfl zzr48 (by decide) (by decide) ?_
    show z_ev (d + 3) 47 29 [some (.ref 4), some (.int p1), some (.int p2), some (.int p3), some (.int p4), some (.ref a22), none] [.int 1] M0 _
    refine z_xZ zt47 8 rfl rfl (fun (h87 : (1 : Int) ≠ 0) => ?_) (fun (h87 : (1 : Int) = 0) => absurd h87 (by omega))
    refine z_xP zt47 11 40 [some (.ref 4), some (.int p1), some (.int p2), some (.int p3), some (.int p4), some (.ref a22), none] [.int 10, .int p3, .int p2, .ref a22] rfl rfl ?_
    refine z_xI zt47 12 rfl rfl (fun (x88 : Int32) (h89 : x88 = p3 <<< ((10 : Int32) &&& 31)) => ?_) (rfl)
    refine z_xI zt47 13 rfl rfl (fun (x90 : Int32) (h91 : x90 = p2 ||| x88) => ?_) (rfl)
    refine z_xcV (vs := [.ref a22, .int x90]) (r := []) (L2 := [some (.ref a22), some (.int x90), none, none, none, none, none, none, none, none]) zt47 14 rfl zo47 zzcV0_132 (Or.inl rfl) rfl X k23 rfl rfl rfl (Nat.le_of_ble_eq_true rfl) zzm49 (Nat.le_of_ble_eq_true rfl) rfl ?_
    obtain ⟨pr92, en93, B94, hAB95⟩ := hR6.at h6 (by omega) (by omega) h13 k19 h21
    have ha96 : z_ans q16 p2 p3 := ⟨⟨by omega, by unfold z_po at *; omega⟩, ⟨by omega, by unfold z_po at *; omega⟩, by rw [← h62.1]; omega⟩
    have ht97 := ha96.lt (by omega)
    refine zUC49 X.1 k23 hAB95.2.2.2.1 (z_told ⟨ht97.1.1, ht97.1.2.1⟩ ⟨ht97.2.1, ht97.2.2.1⟩ h89 h91) ⟨ht97.1.2.2, ht97.2.2.2⟩ (fun x101 M98 X99 h102 h103 h100 => ?_)
    have X104 := X.go X99 (z_sb (by decide))
    show z_ev (d + 3) 47 45 [some (.ref 4), some (.int p1), some (.int p2), some (.int p3), some (.int p4), some (.ref a22), none] [.int x101] M98 _
    refine z_xP zt47 15 49 [some (.ref 4), some (.int p1), some (.int p2), some (.int p3), some (.int p4), some (.ref a22), some (.int x101)] [.int x101] rfl rfl ?_
    refine z_xZ zt47 16 rfl rfl (fun (h106 : 0 ≤ x101.toInt) => ?_) (fun (h106 : x101.toInt < 0) => ?_)
    · skip
      refine z_xP zt47 19 59 [some (.ref 4), some (.int p1), some (.int p2), some (.int p3), some (.int p4), some (.ref a22), some (.int x101)] [.int p4, .int x101] rfl rfl ?_
      refine z_xI zt47 20 rfl rfl (fun (x107 : Int32) (h108 : x107 = x101 >>> (p4 &&& 31)) => ?_) (rfl)
      refine z_xP zt47 21 61 [some (.ref 4), some (.int p1), some (.int p2), some (.int p3), some (.int p4), some (.ref a22), some (.int x101)] [.int 1, .int x107] rfl rfl ?_
      refine z_xI zt47 22 rfl rfl (fun (x109 : Int32) (h110 : x109 = x107 &&& (1 : Int32)) => ?_) (rfl)
      refine z_xZ zt47 23 rfl rfl (fun (h111 : x109.toInt = 0) => ?_) (fun (h111 : x109.toInt ≠ 0) => ?_)
      · skip
        refine z_xP zt47 26 73 [some (.ref 4), some (.int p1), some (.int p2), some (.int p3), some (.int p4), some (.ref a22), some (.int x101)] [.int 10, .int p4, .int x101] rfl rfl ?_
        refine z_xI zt47 27 rfl rfl (fun (x112 : Int32) (h113 : x112.toInt = p4.toInt + 10) => ?_) (z_pAdd rfl rfl (by omega) (by omega))
        refine z_xI zt47 28 rfl rfl (fun (x114 : Int32) (h115 : x114 = x101 >>> (x112 &&& 31)) => ?_) (rfl)
        refine z_xP zt47 29 76 [some (.ref 4), some (.int p1), some (.int p2), some (.int p3), some (.int p4), some (.ref a22), some (.int x101)] [.int 1, .int x114] rfl rfl ?_
        refine z_xI zt47 30 rfl rfl (fun (x116 : Int32) (h117 : x116 = x114 &&& (1 : Int32)) => ?_) (rfl)
        refine z_xZ zt47 31 rfl rfl (fun (h118 : x116.toInt = 0) => ?_) (fun (h118 : x116.toInt ≠ 0) => ?_)
        · skip
          refine z_xP zt47 33 86 [some (.ref 4), some (.int p1), some (.int p2), some (.int p3), some (.int p4), some (.ref a22), some (.int x101)] [.int (-2)] rfl rfl ?_
          have qm2 : (((-2) : Int32)).toInt = (-2) := rfl
          have qm2 : (((-2) : Int32)).toInt = (-2) := rfl
          exact z_xri zt47 34 rfl zzr47 (kk (-2) M98 X104 (by omega) (by omega) (z_qA1 h6 ⟨by omega, by omega⟩ hAB95 (Or.inr ⟨⟨ha96, by omega, by omega⟩, z_fo2 h100 (by omega) (by omega) (by omega) (by omega) (z_sbit h108 h110 (by omega) ⟨by omega, by omega⟩) (by omega) (z_sbit h115 h117 (by omega) ⟨by omega, by omega⟩) (by omega) (by omega)⟩)))
        refine z_xP zt47 32 86 [some (.ref 4), some (.int p1), some (.int p2), some (.int p3), some (.int p4), some (.ref a22), some (.int x101)] [.int 0] rfl rfl ?_
        have q0 : ((0 : Int32)).toInt = 0 := rfl
        have q0 : ((0 : Int32)).toInt = 0 := rfl
        exact z_xri zt47 34 rfl zzr47 (kk 0 M98 X104 (by omega) (by omega) (z_qA1 h6 ⟨by omega, by omega⟩ hAB95 (Or.inr ⟨⟨ha96, by omega, by omega⟩, z_fo0 h100 (by omega) (by omega) (by omega) (z_sbit h115 h117 (by omega) ⟨by omega, by omega⟩) (by omega) (by omega)⟩)))
      refine z_xP zt47 24 66 [some (.ref 4), some (.int p1), some (.int p2), some (.int p3), some (.int p4), some (.ref a22), some (.int x101)] [.int 1] rfl rfl ?_
      have q1 : ((1 : Int32)).toInt = 1 := rfl
      have q1 : ((1 : Int32)).toInt = 1 := rfl
      exact z_xri zt47 25 rfl zzr47 (kk 1 M98 X104 (by omega) (by omega) (z_qA1 h6 ⟨by omega, by omega⟩ hAB95 (Or.inr ⟨⟨ha96, by omega, by omega⟩, z_fo1 h100 (by omega) (by omega) (z_sbit h108 h110 (by omega) ⟨by omega, by omega⟩) (by omega) (by omega)⟩)))
    refine z_xP zt47 17 54 [some (.ref 4), some (.int p1), some (.int p2), some (.int p3), some (.int p4), some (.ref a22), some (.int x101)] [.int (-3)] rfl rfl ?_
    have qm3 : (((-3) : Int32)).toInt = (-3) := rfl
    have qm3 : (((-3) : Int32)).toInt = (-3) := rfl
    exact z_xri zt47 18 rfl zzr47 (kk (-3) M98 X104 (by omega) (by omega) (z_qA1 h6 ⟨by omega, by omega⟩ hAB95 (Or.inr ⟨⟨ha96, by omega, by omega⟩, z_fo3 h100 (by omega) (by omega)⟩)))
  refine z_xP zt37 5 25 [some (.ref 4), some (.int p1)] [.null] rfl rfl ?_
  refine z_xrn zt37 11 rfl zzr37 ?_
  show z_ev (d + 3) 47 5 [some (.ref 4), some (.int p1), some (.int p2), some (.int p3), some (.int p4), none, none] [.null] M0 _
  refine z_xP zt47 2 32 [some (.ref 4), some (.int p1), some (.int p2), some (.int p3), some (.int p4), some (.null), none] [] rfl rfl ?_
  refine z_xP zt47 9 33 [some (.ref 4), some (.int p1), some (.int p2), some (.int p3), some (.int p4), some (.null), none] [.int (-1)] rfl rfl ?_
  have qm1 : (((-1) : Int32)).toInt = (-1) := rfl
  have qm1 : (((-1) : Int32)).toInt = (-1) := rfl
  exact z_xri zt47 10 rfl zzr47 (kk (-1) M0 X (by omega) (by omega) (z_qA0 h6 (by omega) (by omega)))
theorem zUB219 {T : List zK} {d : Nat} {K : Option Value → zH → Prop} {p1 : Int32} {p2 : Int32} {p3 : Int32} {p4 : Int32} {M0 : zH} (u1 : 0 ≤ p1.toInt ∧ p1.toInt ≤ 7) (hq4 : 0 ≤ p4.toInt ∧ p4.toInt < 10) (kk : ∀ (x : Int32) (M1 : zH), z_X T zw219 M0 M1 → (-3) ≤ x.toInt → x.toInt ≤ 1 → y_fo (fun j => z_Ar M0 30 (1024 * p1.toNatClampNeg + j)) p2 p3 p4.toInt.toNat (z_Ar M0 31 p1.toNatClampNeg).toInt.toNat x.toInt → K (some (.int x)) M1) : ∀ n : Nat, (∀ (M : zH) (b5 : Int32) (b6 : Int32) (b7 : Int32) (o8 : Option Value) (z0 : Int32), z_X T zw219 M0 M → 0 ≤ b5.toInt ∧ b5.toInt ≤ 1 → 0 ≤ b6.toInt ∧ b6.toInt ≤ 1 → 0 ≤ b7.toInt ∧ b7.toInt ≤ 1024 → z_Ar M 31 p1.toNatClampNeg = z0 → 0 ≤ z0.toInt ∧ z0.toInt ≤ 1024 → b7.toInt ≤ z0.toInt → y_fb (fun j => z_Ar M0 30 (1024 * p1.toNatClampNeg + j)) p2 p3 p4.toInt.toNat 1 b7.toInt.toNat b5.toInt → y_fb (fun j => z_Ar M0 30 (1024 * p1.toNatClampNeg + j)) p2 p3 p4.toInt.toNat 0 b7.toInt.toNat b6.toInt → ((0) * 2 + 0) * 1025 + (1024 - b7.toInt) < (n : Int) → z_ev (d + 1) 219 9 [some (.ref 19), some (.int p1), some (.int p2), some (.int p3), some (.int p4), some (.int b5), some (.int b6), some (.int b7), o8] [] M K) := by
  intro n
  induction n with
  | zero => exact by intros; exfalso; omega
  | succ n ih =>
    intro M b5 b6 b7 o8 z0 X hh0 hh1 hh2 hp0 hh4 hh5 hY hN hE
    refine z_xP zt219 1 12 [some (.ref 19), some (.int p1), some (.int p2), some (.int p3), some (.int p4), some (.int b5), some (.int b6), some (.int b7), o8] [.ref 19, .int b7] rfl rfl ?_
    have f19 : T[19]? = some (.inl (12, 0, 0, 0, 0)) := X.1.k rfl (by decide)
    refine z_xgX (b := 31) zt219 2 rfl zo219 zzf12_43 X f19 (by decide) (by decide) rfl ?_
    refine z_xP zt219 3 16 [some (.ref 19), some (.int p1), some (.int p2), some (.int p3), some (.int p4), some (.int b5), some (.int b6), some (.int b7), o8] [.int p1, .ref 31, .int b7] rfl rfl ?_
    have f31 : T[31]? = some (.inr (31, 0, 8, 0, 1024)) := X.1.k rfl (by decide)
    refine z_xil zt219 4 rfl X f31 (by decide) (by omega) (by omega) (fun (x1 : Int32) h2 (h3 : 0 ≤ x1.toInt) (h4 : x1.toInt ≤ 1024) => ?_)
    have h5 := congrArg Int32.toInt (h2.symm.trans hp0)
    refine z_xJ zt219 5 rfl rfl (fun (h6 : x1.toInt ≤ b7.toInt) => ?_) (fun (h6 : b7.toInt < x1.toInt) => ?_)
    · skip
      refine z_xP zt219 38 98 [some (.ref 19), some (.int p1), some (.int p2), some (.int p3), some (.int p4), some (.int b5), some (.int b6), some (.int b7), o8] [.int b5] rfl rfl ?_
      refine z_xZ zt219 39 rfl rfl (fun (h7 : b5.toInt = 0) => ?_) (fun (h7 : b5.toInt ≠ 0) => ?_)
      · skip
        refine z_xP zt219 43 113 [some (.ref 19), some (.int p1), some (.int p2), some (.int p3), some (.int p4), some (.int b5), some (.int b6), some (.int b7), o8] [.int b5] rfl rfl ?_
        refine z_xZ zt219 44 rfl rfl (fun (h8 : b5.toInt = 0) => ?_) (fun (h8 : b5.toInt ≠ 0) => absurd h8 (by omega))
        refine z_xP zt219 46 122 [some (.ref 19), some (.int p1), some (.int p2), some (.int p3), some (.int p4), some (.int b5), some (.int b6), some (.int b7), o8] [.int b6] rfl rfl ?_
        refine z_xZ zt219 47 rfl rfl (fun (h9 : b6.toInt = 0) => ?_) (fun (h9 : b6.toInt ≠ 0) => ?_)
        · skip
          refine z_xP zt219 49 131 [some (.ref 19), some (.int p1), some (.int p2), some (.int p3), some (.int p4), some (.int b5), some (.int b6), some (.int b7), o8] [.int (-3)] rfl rfl ?_
          have qm3 : (((-3) : Int32)).toInt = (-3) := rfl
          have i10 : b7.toInt.toNat = (z_Ar M0 31 p1.toNatClampNeg).toInt.toNat := by rw [(congrFun (X.2.a f31 (by decide)) _).symm.trans hp0]; omega
          have qm3 : (((-3) : Int32)).toInt = (-3) := rfl
          exact z_xri zt219 50 rfl zzr219 (kk (-3) M X (by omega) (by omega) (by rw [i10] at hY hN; exact Or.inl ⟨by omega, (y_fbn hY (by omega)), (y_fbn hN (by omega))⟩))
        refine z_xP zt219 48 131 [some (.ref 19), some (.int p1), some (.int p2), some (.int p3), some (.int p4), some (.int b5), some (.int b6), some (.int b7), o8] [.int 0] rfl rfl ?_
        have q0 : ((0 : Int32)).toInt = 0 := rfl
        have i11 : b7.toInt.toNat = (z_Ar M0 31 p1.toNatClampNeg).toInt.toNat := by rw [(congrFun (X.2.a f31 (by decide)) _).symm.trans hp0]; omega
        have q0 : ((0 : Int32)).toInt = 0 := rfl
        exact z_xri zt219 50 rfl zzr219 (kk 0 M X (by omega) (by omega) (by rw [i11] at hY hN; exact Or.inr (Or.inr (Or.inl ⟨by omega, (y_fbn hY (by omega)), (y_fb1 hN (by omega))⟩))))
      refine z_xP zt219 40 103 [some (.ref 19), some (.int p1), some (.int p2), some (.int p3), some (.int p4), some (.int b5), some (.int b6), some (.int b7), o8] [.int b6] rfl rfl ?_
      refine z_xZ zt219 41 rfl rfl (fun (h12 : b6.toInt = 0) => ?_) (fun (h12 : b6.toInt ≠ 0) => ?_)
      · skip
        refine z_xP zt219 43 113 [some (.ref 19), some (.int p1), some (.int p2), some (.int p3), some (.int p4), some (.int b5), some (.int b6), some (.int b7), o8] [.int b5] rfl rfl ?_
        refine z_xZ zt219 44 rfl rfl (fun (h13 : b5.toInt = 0) => absurd h13 (by omega)) (fun (h13 : b5.toInt ≠ 0) => ?_)
        refine z_xP zt219 45 131 [some (.ref 19), some (.int p1), some (.int p2), some (.int p3), some (.int p4), some (.int b5), some (.int b6), some (.int b7), o8] [.int 1] rfl rfl ?_
        have q1 : ((1 : Int32)).toInt = 1 := rfl
        have i14 : b7.toInt.toNat = (z_Ar M0 31 p1.toNatClampNeg).toInt.toNat := by rw [(congrFun (X.2.a f31 (by decide)) _).symm.trans hp0]; omega
        have q1 : ((1 : Int32)).toInt = 1 := rfl
        exact z_xri zt219 50 rfl zzr219 (kk 1 M X (by omega) (by omega) (by rw [i14] at hY hN; exact Or.inr (Or.inl ⟨by omega, (y_fb1 hY (by omega)), (y_fbn hN (by omega))⟩)))
      refine z_xP zt219 42 131 [some (.ref 19), some (.int p1), some (.int p2), some (.int p3), some (.int p4), some (.int b5), some (.int b6), some (.int b7), o8] [.int (-2)] rfl rfl ?_
      have qm2 : (((-2) : Int32)).toInt = (-2) := rfl
      have i15 : b7.toInt.toNat = (z_Ar M0 31 p1.toNatClampNeg).toInt.toNat := by rw [(congrFun (X.2.a f31 (by decide)) _).symm.trans hp0]; omega
      have qm2 : (((-2) : Int32)).toInt = (-2) := rfl
      exact z_xri zt219 50 rfl zzr219 (kk (-2) M X (by omega) (by omega) (by rw [i15] at hY hN; exact Or.inr (Or.inr (Or.inr ⟨by omega, (y_fb1 hY (by omega)), (y_fb1 hN (by omega))⟩))))
    refine z_xP zt219 6 21 [some (.ref 19), some (.int p1), some (.int p2), some (.int p3), some (.int p4), some (.int b5), some (.int b6), some (.int b7), o8] [.ref 19] rfl rfl ?_
    refine z_xgX (b := 30) zt219 7 rfl zo219 zzf12_40 X f19 (by decide) (by decide) rfl ?_
    refine z_xP zt219 8 28 [some (.ref 19), some (.int p1), some (.int p2), some (.int p3), some (.int p4), some (.int b5), some (.int b6), some (.int b7), o8] [.int p1, .int 1024, .ref 30] rfl rfl ?_
    refine z_xI zt219 9 rfl rfl (fun (x16 : Int32) (h17 : x16.toInt = 1024 * p1.toInt) => ?_) (z_pMul rfl rfl (by omega) (by omega))
    refine z_xP zt219 10 31 [some (.ref 19), some (.int p1), some (.int p2), some (.int p3), some (.int p4), some (.int b5), some (.int b6), some (.int b7), o8] [.int b7, .int x16, .ref 30] rfl rfl ?_
    refine z_xI zt219 11 rfl rfl (fun (x18 : Int32) (h19 : x18.toInt = x16.toInt + b7.toInt) => ?_) (z_pAdd rfl rfl (by omega) (by omega))
    have f30 : T[30]? = some (.inr (30, 0, 8192, 0, 1023)) := X.1.k rfl (by decide)
    refine z_xil zt219 12 rfl X f30 (by decide) (by omega) (by omega) (fun (x20 : Int32) h21 (h22 : 0 ≤ x20.toInt) (h23 : x20.toInt ≤ 1023) => ?_)
    refine z_xP zt219 13 39 [some (.ref 19), some (.int p1), some (.int p2), some (.int p3), some (.int p4), some (.int b5), some (.int b6), some (.int b7), some (.int x20)] [.int p3, .int p2, .int x20] rfl rfl ?_
    refine z_xcS (vs := [.int x20, .int p2, .int p3]) (r := []) (L2 := [some (.int x20), some (.int p2), some (.int p3)]) zt219 14 rfl zo219 zzcS12_216 (Or.inl rfl) (Nat.le_of_ble_eq_true rfl) rfl rfl (Nat.le_of_ble_eq_true rfl) zzm216 (Nat.le_of_ble_eq_true rfl) rfl ?_
    refine z_xP zt216 0 2 [some (.int x20), some (.int p2), some (.int p3)] [.int p2, .int x20] rfl rfl ?_
    refine z_xI zt216 1 rfl rfl (fun (x24 : Int32) (h25 : x24 = x20 &&& p2) => ?_) (rfl)
    refine z_xP zt216 2 4 [some (.int x20), some (.int p2), some (.int p3)] [.int p2, .int x24] rfl rfl ?_
    have h26 := z_b32 x24
    have h27 := z_b32 p2
    refine z_xJ zt216 3 rfl rfl (fun (h28 : x24.toInt ≠ p2.toInt) => ?_) (fun (h28 : x24.toInt = p2.toInt) => ?_)
    · skip
      refine z_xP zt216 8 18 [some (.int x20), some (.int p2), some (.int p3)] [.int 0] rfl rfl ?_
      refine z_xrz zt216 9 rfl zzr216 (by decide) (by decide) ?_
      show z_ev (d + 1) 219 42 [some (.ref 19), some (.int p1), some (.int p2), some (.int p3), some (.int p4), some (.int b5), some (.int b6), some (.int b7), some (.int x20)] [.int 0] M _
      refine z_xZ zt219 15 rfl rfl (fun (h29 : (0 : Int) = 0) => ?_) (fun (h29 : (0 : Int) ≠ 0) => absurd h29 (by omega))
      refine z_xN zt219 36 rfl rfl (fun (x30 : Int32) (h31 : x30.toInt = b7.toInt + 1) => ?_) (z_pAdd rfl rfl (by omega) (by omega))
      show z_ev (d + 1) 219 93 [some (.ref 19), some (.int p1), some (.int p2), some (.int p3), some (.int p4), some (.int b5), some (.int b6), some (.int x30), some (.int x20)] [] M _
      refine z_xP zt219 37 9 [some (.ref 19), some (.int p1), some (.int p2), some (.int p3), some (.int p4), some (.int b5), some (.int b6), some (.int x30), some (.int x20)] [] rfl rfl ?_
      have i32 : x30.toInt.toNat = b7.toInt.toNat + 1 := by omega
      have i33 : x30.toInt.toNat = b7.toInt.toNat + 1 := by omega
      exact ih M b5 b6 x30 (some (.int x20)) z0 X ⟨by omega, by omega⟩ ⟨by omega, by omega⟩ ⟨by omega, by omega⟩ hp0 ⟨by omega, by omega⟩ (by omega) (by rw [i32]; exact y_fbN hY rfl (S := (fun j => z_Ar M0 30 (1024 * p1.toNatClampNeg + j))) (s := x20) (by show z_Ar M0 30 (1024 * p1.toNatClampNeg + b7.toInt.toNat) = _; rw [show 1024 * p1.toNatClampNeg + b7.toInt.toNat = x18.toNatClampNeg from by unfold Int32.toNatClampNeg; omega]; exact (congrFun (X.2.a f30 (by decide)) _).symm.trans h21) (fun hh => absurd hh.1.1 (by rw [← h25]; omega))) (by rw [i33]; exact y_fbN hN rfl (S := (fun j => z_Ar M0 30 (1024 * p1.toNatClampNeg + j))) (s := x20) (by show z_Ar M0 30 (1024 * p1.toNatClampNeg + b7.toInt.toNat) = _; rw [show 1024 * p1.toNatClampNeg + b7.toInt.toNat = x18.toNatClampNeg from by unfold Int32.toNatClampNeg; omega]; exact (congrFun (X.2.a f30 (by decide)) _).symm.trans h21) (fun hh => absurd hh.1.1 (by rw [← h25]; omega))) (by omega)
    refine z_xP zt216 4 9 [some (.int x20), some (.int p2), some (.int p3)] [.int p3, .int x20] rfl rfl ?_
    refine z_xI zt216 5 rfl rfl (fun (x34 : Int32) (h35 : x34 = x20 &&& p3) => ?_) (rfl)
    refine z_xZ zt216 6 rfl rfl (fun (h36 : x34.toInt ≠ 0) => ?_) (fun (h36 : x34.toInt = 0) => ?_)
    · skip
      refine z_xP zt216 8 18 [some (.int x20), some (.int p2), some (.int p3)] [.int 0] rfl rfl ?_
      refine z_xrz zt216 9 rfl zzr216 (by decide) (by decide) ?_
      show z_ev (d + 1) 219 42 [some (.ref 19), some (.int p1), some (.int p2), some (.int p3), some (.int p4), some (.int b5), some (.int b6), some (.int b7), some (.int x20)] [.int 0] M _
      refine z_xZ zt219 15 rfl rfl (fun (h37 : (0 : Int) = 0) => ?_) (fun (h37 : (0 : Int) ≠ 0) => absurd h37 (by omega))
      refine z_xN zt219 36 rfl rfl (fun (x38 : Int32) (h39 : x38.toInt = b7.toInt + 1) => ?_) (z_pAdd rfl rfl (by omega) (by omega))
      show z_ev (d + 1) 219 93 [some (.ref 19), some (.int p1), some (.int p2), some (.int p3), some (.int p4), some (.int b5), some (.int b6), some (.int x38), some (.int x20)] [] M _
      refine z_xP zt219 37 9 [some (.ref 19), some (.int p1), some (.int p2), some (.int p3), some (.int p4), some (.int b5), some (.int b6), some (.int x38), some (.int x20)] [] rfl rfl ?_
      have i40 : x38.toInt.toNat = b7.toInt.toNat + 1 := by omega
      have i41 : x38.toInt.toNat = b7.toInt.toNat + 1 := by omega
      exact ih M b5 b6 x38 (some (.int x20)) z0 X ⟨by omega, by omega⟩ ⟨by omega, by omega⟩ ⟨by omega, by omega⟩ hp0 ⟨by omega, by omega⟩ (by omega) (by rw [i40]; exact y_fbN hY rfl (S := (fun j => z_Ar M0 30 (1024 * p1.toNatClampNeg + j))) (s := x20) (by show z_Ar M0 30 (1024 * p1.toNatClampNeg + b7.toInt.toNat) = _; rw [show 1024 * p1.toNatClampNeg + b7.toInt.toNat = x18.toNatClampNeg from by unfold Int32.toNatClampNeg; omega]; exact (congrFun (X.2.a f30 (by decide)) _).symm.trans h21) (fun hh => absurd hh.1.2 (by rw [← h35]; omega))) (by rw [i41]; exact y_fbN hN rfl (S := (fun j => z_Ar M0 30 (1024 * p1.toNatClampNeg + j))) (s := x20) (by show z_Ar M0 30 (1024 * p1.toNatClampNeg + b7.toInt.toNat) = _; rw [show 1024 * p1.toNatClampNeg + b7.toInt.toNat = x18.toNatClampNeg from by unfold Int32.toNatClampNeg; omega]; exact (congrFun (X.2.a f30 (by decide)) _).symm.trans h21) (fun hh => absurd hh.1.2 (by rw [← h35]; omega))) (by omega)
    refine z_xP zt216 7 18 [some (.int x20), some (.int p2), some (.int p3)] [.int 1] rfl rfl ?_
    refine z_xrz zt216 9 rfl zzr216 (by decide) (by decide) ?_
    show z_ev (d + 1) 219 42 [some (.ref 19), some (.int p1), some (.int p2), some (.int p3), some (.int p4), some (.int b5), some (.int b6), some (.int b7), some (.int x20)] [.int 1] M _
    refine z_xZ zt219 15 rfl rfl (fun (h42 : (1 : Int) = 0) => absurd h42 (by omega)) (fun (h42 : (1 : Int) ≠ 0) => ?_)
    refine z_xP zt219 16 47 [some (.ref 19), some (.int p1), some (.int p2), some (.int p3), some (.int p4), some (.int b5), some (.int b6), some (.int b7), some (.int x20)] [.int b5] rfl rfl ?_
    refine z_xZ zt219 17 rfl rfl (fun (h43 : b5.toInt ≠ 0) => ?_) (fun (h43 : b5.toInt = 0) => ?_)
    · skip
      refine z_xP zt219 24 66 [some (.ref 19), some (.int p1), some (.int p2), some (.int p3), some (.int p4), some (.int b5), some (.int b6), some (.int b7), some (.int x20)] [.int 1] rfl rfl ?_
      refine z_xP zt219 26 70 [some (.ref 19), some (.int p1), some (.int p2), some (.int p3), some (.int p4), some (.int 1), some (.int b6), some (.int b7), some (.int x20)] [.int b6] rfl rfl ?_
      refine z_xZ zt219 27 rfl rfl (fun (h44 : b6.toInt ≠ 0) => ?_) (fun (h44 : b6.toInt = 0) => ?_)
      · skip
        refine z_xP zt219 33 88 [some (.ref 19), some (.int p1), some (.int p2), some (.int p3), some (.int p4), some (.int 1), some (.int b6), some (.int b7), some (.int x20)] [.int 1] rfl rfl ?_
        refine z_xP zt219 35 90 [some (.ref 19), some (.int p1), some (.int p2), some (.int p3), some (.int p4), some (.int 1), some (.int 1), some (.int b7), some (.int x20)] [] rfl rfl ?_
        refine z_xN zt219 36 rfl rfl (fun (x45 : Int32) (h46 : x45.toInt = b7.toInt + 1) => ?_) (z_pAdd rfl rfl (by omega) (by omega))
        show z_ev (d + 1) 219 93 [some (.ref 19), some (.int p1), some (.int p2), some (.int p3), some (.int p4), some (.int 1), some (.int 1), some (.int x45), some (.int x20)] [] M _
        refine z_xP zt219 37 9 [some (.ref 19), some (.int p1), some (.int p2), some (.int p3), some (.int p4), some (.int 1), some (.int 1), some (.int x45), some (.int x20)] [] rfl rfl ?_
        have i47 : x45.toInt.toNat = b7.toInt.toNat + 1 := by omega
        have q1 : ((1 : Int32)).toInt = 1 := rfl
        have i48 : x45.toInt.toNat = b7.toInt.toNat + 1 := by omega
        have q1 : ((1 : Int32)).toInt = 1 := rfl
        have q1 : ((1 : Int32)).toInt = 1 := rfl
        exact ih M (1) (1) x45 (some (.int x20)) z0 X (by decide) (by decide) ⟨by omega, by omega⟩ hp0 ⟨by omega, by omega⟩ (by omega) (by rw [i47]; exact y_fbK hY (by omega) (by omega)) (by rw [i48]; exact y_fbK hN (by omega) (by omega)) (by omega)
      refine z_xP zt219 28 77 [some (.ref 19), some (.int p1), some (.int p2), some (.int p3), some (.int p4), some (.int 1), some (.int b6), some (.int b7), some (.int x20)] [.int p4, .int x20] rfl rfl ?_
      have h49 := z_b32 p4
      refine z_xI zt219 29 rfl rfl (fun (x50 : Int32) (h51 : x50 = x20 >>> (p4 &&& 31)) => ?_) (rfl)
      refine z_xP zt219 30 79 [some (.ref 19), some (.int p1), some (.int p2), some (.int p3), some (.int p4), some (.int 1), some (.int b6), some (.int b7), some (.int x20)] [.int 1, .int x50] rfl rfl ?_
      refine z_xI zt219 31 rfl rfl (fun (x52 : Int32) (h53 : x52 = x50 &&& (1 : Int32)) => ?_) (rfl)
      refine z_xZ zt219 32 rfl rfl (fun (h54 : x52.toInt ≠ 0) => ?_) (fun (h54 : x52.toInt = 0) => ?_)
      · skip
        refine z_xP zt219 34 88 [some (.ref 19), some (.int p1), some (.int p2), some (.int p3), some (.int p4), some (.int 1), some (.int b6), some (.int b7), some (.int x20)] [.int 0] rfl rfl ?_
        refine z_xP zt219 35 90 [some (.ref 19), some (.int p1), some (.int p2), some (.int p3), some (.int p4), some (.int 1), some (.int 0), some (.int b7), some (.int x20)] [] rfl rfl ?_
        refine z_xN zt219 36 rfl rfl (fun (x55 : Int32) (h56 : x55.toInt = b7.toInt + 1) => ?_) (z_pAdd rfl rfl (by omega) (by omega))
        show z_ev (d + 1) 219 93 [some (.ref 19), some (.int p1), some (.int p2), some (.int p3), some (.int p4), some (.int 1), some (.int 0), some (.int x55), some (.int x20)] [] M _
        refine z_xP zt219 37 9 [some (.ref 19), some (.int p1), some (.int p2), some (.int p3), some (.int p4), some (.int 1), some (.int 0), some (.int x55), some (.int x20)] [] rfl rfl ?_
        have i57 : x55.toInt.toNat = b7.toInt.toNat + 1 := by omega
        have q1 : ((1 : Int32)).toInt = 1 := rfl
        have i58 : x55.toInt.toNat = b7.toInt.toNat + 1 := by omega
        have q0 : ((0 : Int32)).toInt = 0 := rfl
        have i59 := (z_sbit h51 h53 (by omega) ⟨by omega, by omega⟩)
        have q0 : ((0 : Int32)).toInt = 0 := rfl
        have q1 : ((1 : Int32)).toInt = 1 := rfl
        exact ih M (1) (0) x55 (some (.int x20)) z0 X (by decide) (by decide) ⟨by omega, by omega⟩ hp0 ⟨by omega, by omega⟩ (by omega) (by rw [i57]; exact y_fbK hY (by omega) (by omega)) (by rw [i58]; exact y_fbN hN (by omega) (S := (fun j => z_Ar M0 30 (1024 * p1.toNatClampNeg + j))) (s := x20) (by show z_Ar M0 30 (1024 * p1.toNatClampNeg + b7.toInt.toNat) = _; rw [show 1024 * p1.toNatClampNeg + b7.toInt.toNat = x18.toNatClampNeg from by unfold Int32.toNatClampNeg; omega]; exact (congrFun (X.2.a f30 (by decide)) _).symm.trans h21) (fun hh => absurd hh.2 (by omega))) (by omega)
      refine z_xP zt219 33 88 [some (.ref 19), some (.int p1), some (.int p2), some (.int p3), some (.int p4), some (.int 1), some (.int b6), some (.int b7), some (.int x20)] [.int 1] rfl rfl ?_
      refine z_xP zt219 35 90 [some (.ref 19), some (.int p1), some (.int p2), some (.int p3), some (.int p4), some (.int 1), some (.int 1), some (.int b7), some (.int x20)] [] rfl rfl ?_
      refine z_xN zt219 36 rfl rfl (fun (x60 : Int32) (h61 : x60.toInt = b7.toInt + 1) => ?_) (z_pAdd rfl rfl (by omega) (by omega))
      show z_ev (d + 1) 219 93 [some (.ref 19), some (.int p1), some (.int p2), some (.int p3), some (.int p4), some (.int 1), some (.int 1), some (.int x60), some (.int x20)] [] M _
      refine z_xP zt219 37 9 [some (.ref 19), some (.int p1), some (.int p2), some (.int p3), some (.int p4), some (.int 1), some (.int 1), some (.int x60), some (.int x20)] [] rfl rfl ?_
      have i62 : x60.toInt.toNat = b7.toInt.toNat + 1 := by omega
      have q1 : ((1 : Int32)).toInt = 1 := rfl
      have i63 : x60.toInt.toNat = b7.toInt.toNat + 1 := by omega
      have q1 : ((1 : Int32)).toInt = 1 := rfl
      have i64 := (z_sbit h51 h53 (by omega) ⟨by omega, by omega⟩)
      have q1 : ((1 : Int32)).toInt = 1 := rfl
      exact ih M (1) (1) x60 (some (.int x20)) z0 X (by decide) (by decide) ⟨by omega, by omega⟩ hp0 ⟨by omega, by omega⟩ (by omega) (by rw [i62]; exact y_fbK hY (by omega) (by omega)) (by rw [i63]; exact y_fbY hN (by omega) (S := (fun j => z_Ar M0 30 (1024 * p1.toNatClampNeg + j))) (s := x20) (by show z_Ar M0 30 (1024 * p1.toNatClampNeg + b7.toInt.toNat) = _; rw [show 1024 * p1.toNatClampNeg + b7.toInt.toNat = x18.toNatClampNeg from by unfold Int32.toNatClampNeg; omega]; exact (congrFun (X.2.a f30 (by decide)) _).symm.trans h21) ⟨by rw [← h25]; omega, by rw [← h35]; omega⟩ (by omega)) (by omega)
    refine z_xP zt219 18 54 [some (.ref 19), some (.int p1), some (.int p2), some (.int p3), some (.int p4), some (.int b5), some (.int b6), some (.int b7), some (.int x20)] [.int p4, .int x20] rfl rfl ?_
    have h65 := z_b32 p4
    refine z_xI zt219 19 rfl rfl (fun (x66 : Int32) (h67 : x66 = x20 >>> (p4 &&& 31)) => ?_) (rfl)
    refine z_xP zt219 20 56 [some (.ref 19), some (.int p1), some (.int p2), some (.int p3), some (.int p4), some (.int b5), some (.int b6), some (.int b7), some (.int x20)] [.int 1, .int x66] rfl rfl ?_
    refine z_xI zt219 21 rfl rfl (fun (x68 : Int32) (h69 : x68 = x66 &&& (1 : Int32)) => ?_) (rfl)
    refine z_xP zt219 22 58 [some (.ref 19), some (.int p1), some (.int p2), some (.int p3), some (.int p4), some (.int b5), some (.int b6), some (.int b7), some (.int x20)] [.int 1, .int x68] rfl rfl ?_
    refine z_xJ zt219 23 rfl rfl (fun (h70 : x68.toInt ≠ 1) => ?_) (fun (h70 : x68.toInt = 1) => ?_)
    · skip
      refine z_xP zt219 25 66 [some (.ref 19), some (.int p1), some (.int p2), some (.int p3), some (.int p4), some (.int b5), some (.int b6), some (.int b7), some (.int x20)] [.int 0] rfl rfl ?_
      refine z_xP zt219 26 70 [some (.ref 19), some (.int p1), some (.int p2), some (.int p3), some (.int p4), some (.int 0), some (.int b6), some (.int b7), some (.int x20)] [.int b6] rfl rfl ?_
      refine z_xZ zt219 27 rfl rfl (fun (h71 : b6.toInt ≠ 0) => ?_) (fun (h71 : b6.toInt = 0) => ?_)
      · skip
        refine z_xP zt219 33 88 [some (.ref 19), some (.int p1), some (.int p2), some (.int p3), some (.int p4), some (.int 0), some (.int b6), some (.int b7), some (.int x20)] [.int 1] rfl rfl ?_
        refine z_xP zt219 35 90 [some (.ref 19), some (.int p1), some (.int p2), some (.int p3), some (.int p4), some (.int 0), some (.int 1), some (.int b7), some (.int x20)] [] rfl rfl ?_
        refine z_xN zt219 36 rfl rfl (fun (x72 : Int32) (h73 : x72.toInt = b7.toInt + 1) => ?_) (z_pAdd rfl rfl (by omega) (by omega))
        show z_ev (d + 1) 219 93 [some (.ref 19), some (.int p1), some (.int p2), some (.int p3), some (.int p4), some (.int 0), some (.int 1), some (.int x72), some (.int x20)] [] M _
        refine z_xP zt219 37 9 [some (.ref 19), some (.int p1), some (.int p2), some (.int p3), some (.int p4), some (.int 0), some (.int 1), some (.int x72), some (.int x20)] [] rfl rfl ?_
        have i74 : x72.toInt.toNat = b7.toInt.toNat + 1 := by omega
        have q0 : ((0 : Int32)).toInt = 0 := rfl
        have i75 := (z_sbit h67 h69 (by omega) ⟨by omega, by omega⟩)
        have i76 : x72.toInt.toNat = b7.toInt.toNat + 1 := by omega
        have q1 : ((1 : Int32)).toInt = 1 := rfl
        have q0 : ((0 : Int32)).toInt = 0 := rfl
        have q1 : ((1 : Int32)).toInt = 1 := rfl
        exact ih M (0) (1) x72 (some (.int x20)) z0 X (by decide) (by decide) ⟨by omega, by omega⟩ hp0 ⟨by omega, by omega⟩ (by omega) (by rw [i74]; exact y_fbN hY (by omega) (S := (fun j => z_Ar M0 30 (1024 * p1.toNatClampNeg + j))) (s := x20) (by show z_Ar M0 30 (1024 * p1.toNatClampNeg + b7.toInt.toNat) = _; rw [show 1024 * p1.toNatClampNeg + b7.toInt.toNat = x18.toNatClampNeg from by unfold Int32.toNatClampNeg; omega]; exact (congrFun (X.2.a f30 (by decide)) _).symm.trans h21) (fun hh => absurd hh.2 (by omega))) (by rw [i76]; exact y_fbK hN (by omega) (by omega)) (by omega)
      refine z_xP zt219 28 77 [some (.ref 19), some (.int p1), some (.int p2), some (.int p3), some (.int p4), some (.int 0), some (.int b6), some (.int b7), some (.int x20)] [.int p4, .int x20] rfl rfl ?_
      refine z_xI zt219 29 rfl rfl (fun (x77 : Int32) (h78 : x77 = x20 >>> (p4 &&& 31)) => ?_) (rfl)
      refine z_xP zt219 30 79 [some (.ref 19), some (.int p1), some (.int p2), some (.int p3), some (.int p4), some (.int 0), some (.int b6), some (.int b7), some (.int x20)] [.int 1, .int x77] rfl rfl ?_
      refine z_xI zt219 31 rfl rfl (fun (x79 : Int32) (h80 : x79 = x77 &&& (1 : Int32)) => ?_) (rfl)
      refine z_xZ zt219 32 rfl rfl (fun (h81 : x79.toInt ≠ 0) => ?_) (fun (h81 : x79.toInt = 0) => ?_)
      · skip
        refine z_xP zt219 34 88 [some (.ref 19), some (.int p1), some (.int p2), some (.int p3), some (.int p4), some (.int 0), some (.int b6), some (.int b7), some (.int x20)] [.int 0] rfl rfl ?_
        refine z_xP zt219 35 90 [some (.ref 19), some (.int p1), some (.int p2), some (.int p3), some (.int p4), some (.int 0), some (.int 0), some (.int b7), some (.int x20)] [] rfl rfl ?_
        refine z_xN zt219 36 rfl rfl (fun (x82 : Int32) (h83 : x82.toInt = b7.toInt + 1) => ?_) (z_pAdd rfl rfl (by omega) (by omega))
        show z_ev (d + 1) 219 93 [some (.ref 19), some (.int p1), some (.int p2), some (.int p3), some (.int p4), some (.int 0), some (.int 0), some (.int x82), some (.int x20)] [] M _
        refine z_xP zt219 37 9 [some (.ref 19), some (.int p1), some (.int p2), some (.int p3), some (.int p4), some (.int 0), some (.int 0), some (.int x82), some (.int x20)] [] rfl rfl ?_
        have i84 : x82.toInt.toNat = b7.toInt.toNat + 1 := by omega
        have q0 : ((0 : Int32)).toInt = 0 := rfl
        have i85 := (z_sbit h67 h69 (by omega) ⟨by omega, by omega⟩)
        have i86 : x82.toInt.toNat = b7.toInt.toNat + 1 := by omega
        have q0 : ((0 : Int32)).toInt = 0 := rfl
        have i87 := (z_sbit h78 h80 (by omega) ⟨by omega, by omega⟩)
        have q0 : ((0 : Int32)).toInt = 0 := rfl
        exact ih M (0) (0) x82 (some (.int x20)) z0 X (by decide) (by decide) ⟨by omega, by omega⟩ hp0 ⟨by omega, by omega⟩ (by omega) (by rw [i84]; exact y_fbN hY (by omega) (S := (fun j => z_Ar M0 30 (1024 * p1.toNatClampNeg + j))) (s := x20) (by show z_Ar M0 30 (1024 * p1.toNatClampNeg + b7.toInt.toNat) = _; rw [show 1024 * p1.toNatClampNeg + b7.toInt.toNat = x18.toNatClampNeg from by unfold Int32.toNatClampNeg; omega]; exact (congrFun (X.2.a f30 (by decide)) _).symm.trans h21) (fun hh => absurd hh.2 (by omega))) (by rw [i86]; exact y_fbN hN (by omega) (S := (fun j => z_Ar M0 30 (1024 * p1.toNatClampNeg + j))) (s := x20) (by show z_Ar M0 30 (1024 * p1.toNatClampNeg + b7.toInt.toNat) = _; rw [show 1024 * p1.toNatClampNeg + b7.toInt.toNat = x18.toNatClampNeg from by unfold Int32.toNatClampNeg; omega]; exact (congrFun (X.2.a f30 (by decide)) _).symm.trans h21) (fun hh => absurd hh.2 (by omega))) (by omega)
      refine z_xP zt219 33 88 [some (.ref 19), some (.int p1), some (.int p2), some (.int p3), some (.int p4), some (.int 0), some (.int b6), some (.int b7), some (.int x20)] [.int 1] rfl rfl ?_
      refine z_xP zt219 35 90 [some (.ref 19), some (.int p1), some (.int p2), some (.int p3), some (.int p4), some (.int 0), some (.int 1), some (.int b7), some (.int x20)] [] rfl rfl ?_
      refine z_xN zt219 36 rfl rfl (fun (x88 : Int32) (h89 : x88.toInt = b7.toInt + 1) => ?_) (z_pAdd rfl rfl (by omega) (by omega))
      show z_ev (d + 1) 219 93 [some (.ref 19), some (.int p1), some (.int p2), some (.int p3), some (.int p4), some (.int 0), some (.int 1), some (.int x88), some (.int x20)] [] M _
      refine z_xP zt219 37 9 [some (.ref 19), some (.int p1), some (.int p2), some (.int p3), some (.int p4), some (.int 0), some (.int 1), some (.int x88), some (.int x20)] [] rfl rfl ?_
      have i90 : x88.toInt.toNat = b7.toInt.toNat + 1 := by omega
      have q0 : ((0 : Int32)).toInt = 0 := rfl
      have i91 := (z_sbit h67 h69 (by omega) ⟨by omega, by omega⟩)
      have i92 : x88.toInt.toNat = b7.toInt.toNat + 1 := by omega
      have q1 : ((1 : Int32)).toInt = 1 := rfl
      have i93 := (z_sbit h78 h80 (by omega) ⟨by omega, by omega⟩)
      have q0 : ((0 : Int32)).toInt = 0 := rfl
      have q1 : ((1 : Int32)).toInt = 1 := rfl
      exact ih M (0) (1) x88 (some (.int x20)) z0 X (by decide) (by decide) ⟨by omega, by omega⟩ hp0 ⟨by omega, by omega⟩ (by omega) (by rw [i90]; exact y_fbN hY (by omega) (S := (fun j => z_Ar M0 30 (1024 * p1.toNatClampNeg + j))) (s := x20) (by show z_Ar M0 30 (1024 * p1.toNatClampNeg + b7.toInt.toNat) = _; rw [show 1024 * p1.toNatClampNeg + b7.toInt.toNat = x18.toNatClampNeg from by unfold Int32.toNatClampNeg; omega]; exact (congrFun (X.2.a f30 (by decide)) _).symm.trans h21) (fun hh => absurd hh.2 (by omega))) (by rw [i92]; exact y_fbY hN (by omega) (S := (fun j => z_Ar M0 30 (1024 * p1.toNatClampNeg + j))) (s := x20) (by show z_Ar M0 30 (1024 * p1.toNatClampNeg + b7.toInt.toNat) = _; rw [show 1024 * p1.toNatClampNeg + b7.toInt.toNat = x18.toNatClampNeg from by unfold Int32.toNatClampNeg; omega]; exact (congrFun (X.2.a f30 (by decide)) _).symm.trans h21) ⟨by rw [← h25]; omega, by rw [← h35]; omega⟩ (by omega)) (by omega)
    refine z_xP zt219 24 66 [some (.ref 19), some (.int p1), some (.int p2), some (.int p3), some (.int p4), some (.int b5), some (.int b6), some (.int b7), some (.int x20)] [.int 1] rfl rfl ?_
    refine z_xP zt219 26 70 [some (.ref 19), some (.int p1), some (.int p2), some (.int p3), some (.int p4), some (.int 1), some (.int b6), some (.int b7), some (.int x20)] [.int b6] rfl rfl ?_
    refine z_xZ zt219 27 rfl rfl (fun (h94 : b6.toInt ≠ 0) => ?_) (fun (h94 : b6.toInt = 0) => ?_)
    · skip
      refine z_xP zt219 33 88 [some (.ref 19), some (.int p1), some (.int p2), some (.int p3), some (.int p4), some (.int 1), some (.int b6), some (.int b7), some (.int x20)] [.int 1] rfl rfl ?_
      refine z_xP zt219 35 90 [some (.ref 19), some (.int p1), some (.int p2), some (.int p3), some (.int p4), some (.int 1), some (.int 1), some (.int b7), some (.int x20)] [] rfl rfl ?_
      refine z_xN zt219 36 rfl rfl (fun (x95 : Int32) (h96 : x95.toInt = b7.toInt + 1) => ?_) (z_pAdd rfl rfl (by omega) (by omega))
      show z_ev (d + 1) 219 93 [some (.ref 19), some (.int p1), some (.int p2), some (.int p3), some (.int p4), some (.int 1), some (.int 1), some (.int x95), some (.int x20)] [] M _
      refine z_xP zt219 37 9 [some (.ref 19), some (.int p1), some (.int p2), some (.int p3), some (.int p4), some (.int 1), some (.int 1), some (.int x95), some (.int x20)] [] rfl rfl ?_
      have i97 : x95.toInt.toNat = b7.toInt.toNat + 1 := by omega
      have q1 : ((1 : Int32)).toInt = 1 := rfl
      have i98 := (z_sbit h67 h69 (by omega) ⟨by omega, by omega⟩)
      have i99 : x95.toInt.toNat = b7.toInt.toNat + 1 := by omega
      have q1 : ((1 : Int32)).toInt = 1 := rfl
      have q1 : ((1 : Int32)).toInt = 1 := rfl
      exact ih M (1) (1) x95 (some (.int x20)) z0 X (by decide) (by decide) ⟨by omega, by omega⟩ hp0 ⟨by omega, by omega⟩ (by omega) (by rw [i97]; exact y_fbY hY (by omega) (S := (fun j => z_Ar M0 30 (1024 * p1.toNatClampNeg + j))) (s := x20) (by show z_Ar M0 30 (1024 * p1.toNatClampNeg + b7.toInt.toNat) = _; rw [show 1024 * p1.toNatClampNeg + b7.toInt.toNat = x18.toNatClampNeg from by unfold Int32.toNatClampNeg; omega]; exact (congrFun (X.2.a f30 (by decide)) _).symm.trans h21) ⟨by rw [← h25]; omega, by rw [← h35]; omega⟩ (by omega)) (by rw [i99]; exact y_fbK hN (by omega) (by omega)) (by omega)
    refine z_xP zt219 28 77 [some (.ref 19), some (.int p1), some (.int p2), some (.int p3), some (.int p4), some (.int 1), some (.int b6), some (.int b7), some (.int x20)] [.int p4, .int x20] rfl rfl ?_
    refine z_xI zt219 29 rfl rfl (fun (x100 : Int32) (h101 : x100 = x20 >>> (p4 &&& 31)) => ?_) (rfl)
    refine z_xP zt219 30 79 [some (.ref 19), some (.int p1), some (.int p2), some (.int p3), some (.int p4), some (.int 1), some (.int b6), some (.int b7), some (.int x20)] [.int 1, .int x100] rfl rfl ?_
    refine z_xI zt219 31 rfl rfl (fun (x102 : Int32) (h103 : x102 = x100 &&& (1 : Int32)) => ?_) (rfl)
    refine z_xZ zt219 32 rfl rfl (fun (h104 : x102.toInt ≠ 0) => ?_) (fun (h104 : x102.toInt = 0) => ?_)
    · skip
      refine z_xP zt219 34 88 [some (.ref 19), some (.int p1), some (.int p2), some (.int p3), some (.int p4), some (.int 1), some (.int b6), some (.int b7), some (.int x20)] [.int 0] rfl rfl ?_
      refine z_xP zt219 35 90 [some (.ref 19), some (.int p1), some (.int p2), some (.int p3), some (.int p4), some (.int 1), some (.int 0), some (.int b7), some (.int x20)] [] rfl rfl ?_
      refine z_xN zt219 36 rfl rfl (fun (x105 : Int32) (h106 : x105.toInt = b7.toInt + 1) => ?_) (z_pAdd rfl rfl (by omega) (by omega))
      show z_ev (d + 1) 219 93 [some (.ref 19), some (.int p1), some (.int p2), some (.int p3), some (.int p4), some (.int 1), some (.int 0), some (.int x105), some (.int x20)] [] M _
      refine z_xP zt219 37 9 [some (.ref 19), some (.int p1), some (.int p2), some (.int p3), some (.int p4), some (.int 1), some (.int 0), some (.int x105), some (.int x20)] [] rfl rfl ?_
      have i107 : x105.toInt.toNat = b7.toInt.toNat + 1 := by omega
      have q1 : ((1 : Int32)).toInt = 1 := rfl
      have i108 := (z_sbit h67 h69 (by omega) ⟨by omega, by omega⟩)
      have i109 : x105.toInt.toNat = b7.toInt.toNat + 1 := by omega
      have q0 : ((0 : Int32)).toInt = 0 := rfl
      have i110 := (z_sbit h101 h103 (by omega) ⟨by omega, by omega⟩)
      have q0 : ((0 : Int32)).toInt = 0 := rfl
      have q1 : ((1 : Int32)).toInt = 1 := rfl
      exact ih M (1) (0) x105 (some (.int x20)) z0 X (by decide) (by decide) ⟨by omega, by omega⟩ hp0 ⟨by omega, by omega⟩ (by omega) (by rw [i107]; exact y_fbY hY (by omega) (S := (fun j => z_Ar M0 30 (1024 * p1.toNatClampNeg + j))) (s := x20) (by show z_Ar M0 30 (1024 * p1.toNatClampNeg + b7.toInt.toNat) = _; rw [show 1024 * p1.toNatClampNeg + b7.toInt.toNat = x18.toNatClampNeg from by unfold Int32.toNatClampNeg; omega]; exact (congrFun (X.2.a f30 (by decide)) _).symm.trans h21) ⟨by rw [← h25]; omega, by rw [← h35]; omega⟩ (by omega)) (by rw [i109]; exact y_fbN hN (by omega) (S := (fun j => z_Ar M0 30 (1024 * p1.toNatClampNeg + j))) (s := x20) (by show z_Ar M0 30 (1024 * p1.toNatClampNeg + b7.toInt.toNat) = _; rw [show 1024 * p1.toNatClampNeg + b7.toInt.toNat = x18.toNatClampNeg from by unfold Int32.toNatClampNeg; omega]; exact (congrFun (X.2.a f30 (by decide)) _).symm.trans h21) (fun hh => absurd hh.2 (by omega))) (by omega)
    refine z_xP zt219 33 88 [some (.ref 19), some (.int p1), some (.int p2), some (.int p3), some (.int p4), some (.int 1), some (.int b6), some (.int b7), some (.int x20)] [.int 1] rfl rfl ?_
    refine z_xP zt219 35 90 [some (.ref 19), some (.int p1), some (.int p2), some (.int p3), some (.int p4), some (.int 1), some (.int 1), some (.int b7), some (.int x20)] [] rfl rfl ?_
    refine z_xN zt219 36 rfl rfl (fun (x111 : Int32) (h112 : x111.toInt = b7.toInt + 1) => ?_) (z_pAdd rfl rfl (by omega) (by omega))
    show z_ev (d + 1) 219 93 [some (.ref 19), some (.int p1), some (.int p2), some (.int p3), some (.int p4), some (.int 1), some (.int 1), some (.int x111), some (.int x20)] [] M _
    refine z_xP zt219 37 9 [some (.ref 19), some (.int p1), some (.int p2), some (.int p3), some (.int p4), some (.int 1), some (.int 1), some (.int x111), some (.int x20)] [] rfl rfl ?_
    have i113 : x111.toInt.toNat = b7.toInt.toNat + 1 := by omega
    have q1 : ((1 : Int32)).toInt = 1 := rfl
    have i114 := (z_sbit h67 h69 (by omega) ⟨by omega, by omega⟩)
    have i115 : x111.toInt.toNat = b7.toInt.toNat + 1 := by omega
    have q1 : ((1 : Int32)).toInt = 1 := rfl
    have i116 := (z_sbit h101 h103 (by omega) ⟨by omega, by omega⟩)
    have q1 : ((1 : Int32)).toInt = 1 := rfl
    exact ih M (1) (1) x111 (some (.int x20)) z0 X (by decide) (by decide) ⟨by omega, by omega⟩ hp0 ⟨by omega, by omega⟩ (by omega) (by rw [i113]; exact y_fbY hY (by omega) (S := (fun j => z_Ar M0 30 (1024 * p1.toNatClampNeg + j))) (s := x20) (by show z_Ar M0 30 (1024 * p1.toNatClampNeg + b7.toInt.toNat) = _; rw [show 1024 * p1.toNatClampNeg + b7.toInt.toNat = x18.toNatClampNeg from by unfold Int32.toNatClampNeg; omega]; exact (congrFun (X.2.a f30 (by decide)) _).symm.trans h21) ⟨by rw [← h25]; omega, by rw [← h35]; omega⟩ (by omega)) (by rw [i115]; exact y_fbY hN (by omega) (S := (fun j => z_Ar M0 30 (1024 * p1.toNatClampNeg + j))) (s := x20) (by show z_Ar M0 30 (1024 * p1.toNatClampNeg + b7.toInt.toNat) = _; rw [show 1024 * p1.toNatClampNeg + b7.toInt.toNat = x18.toNatClampNeg from by unfold Int32.toNatClampNeg; omega]; exact (congrFun (X.2.a f30 (by decide)) _).symm.trans h21) ⟨by rw [← h25]; omega, by rw [← h35]; omega⟩ (by omega)) (by omega)
theorem zUC219 {T : List zK} {d : Nat} {K : Option Value → zH → Prop} {p1 : Int32} {p2 : Int32} {p3 : Int32} {p4 : Int32} {M0 : zH} (hW : z_W M0 T) (u1 : 0 ≤ p1.toInt ∧ p1.toInt ≤ 7) (hq4 : 0 ≤ p4.toInt ∧ p4.toInt < 10) (kk : ∀ (x : Int32) (M1 : zH), z_X T zw219 M0 M1 → (-3) ≤ x.toInt → x.toInt ≤ 1 → y_fo (fun j => z_Ar M0 30 (1024 * p1.toNatClampNeg + j)) p2 p3 p4.toInt.toNat (z_Ar M0 31 p1.toNatClampNeg).toInt.toNat x.toInt → K (some (.int x)) M1) : z_ev (d + 1) 219 0 [some (.ref 19), some (.int p1), some (.int p2), some (.int p3), some (.int p4), none, none, none, none] [] M0 K := by
  have X : z_X T zw219 M0 M0 := .refl hW
  refine z_xP zt219 0 9 [some (.ref 19), some (.int p1), some (.int p2), some (.int p3), some (.int p4), some (.int 0), some (.int 0), some (.int 0), none] [] rfl rfl ?_
  have f31 : T[31]? = some (.inr (31, 0, 8, 0, 1024)) := X.1.k rfl (by decide)
  obtain ⟨x1, h2, h3, h4⟩ := z_W.ae (x := p1) X.1 f31 (by decide) (by omega) (by omega)
  have q0 : ((0 : Int32)).toInt = 0 := rfl
  exact (zUB219 u1 hq4 kk 2050) M0 (0) (0) (0) none x1 X (by decide) (by decide) (by decide) h2 ⟨by omega, by omega⟩ (by omega) (y_fb0 (x0 := 0) rfl rfl) (y_fb0 (x0 := 0) rfl rfl) (by omega)
theorem zUC217 {T : List zK} {d : Nat} {K : Option Value → zH → Prop} {p1 : Int32} {p2 : Int32} {p3 : Int32} {p4 : Int32} {M0 : zH} (hW : z_W M0 T)  (kk : ∀ (x : Int32) (M1 : zH), z_X T zw217 M0 M1 → (-3) ≤ x.toInt → x.toInt ≤ 1 → y_qA M0 p1 x.toInt ((x.toInt = -1 ∧ ¬ (z_ans (z_Ar M0 24 p1.toNatClampNeg).toInt.toNat p2 p3 ∧ 0 ≤ p4.toInt ∧ p4.toInt < ((z_Ar M0 24 p1.toNatClampNeg).toInt.toNat : Int))) ∨ ((z_ans (z_Ar M0 24 p1.toNatClampNeg).toInt.toNat p2 p3 ∧ 0 ≤ p4.toInt ∧ p4.toInt < ((z_Ar M0 24 p1.toNatClampNeg).toInt.toNat : Int)) ∧ y_fo (fun j => z_Ar M0 30 (1024 * p1.toNatClampNeg + j)) p2 p3 p4.toInt.toNat (z_Ar M0 31 p1.toNatClampNeg).toInt.toNat x.toInt)) → K (some (.int x)) M1) : z_ev (d + 2) 217 0 [some (.ref 19), some (.int p1), some (.int p2), some (.int p3), some (.int p4)] [] M0 K := by
  have X : z_X T zw217 M0 M0 := .refl hW
  refine z_xP zt217 0 4 [some (.ref 19), some (.int p1), some (.int p2), some (.int p3), some (.int p4)] [.int p3, .int p2, .int p1, .ref 19] rfl rfl ?_
  have f19 : T[19]? = some (.inl (12, 0, 0, 0, 0)) := X.1.k rfl (by decide)
  refine z_xcV (vs := [.ref 19, .int p1, .int p2, .int p3]) (r := []) (L2 := [some (.ref 19), some (.int p1), some (.int p2), some (.int p3)]) zt217 1 rfl zo217 zzcV12_219 (Or.inl rfl) rfl X f19 rfl rfl rfl (Nat.le_of_ble_eq_true rfl) zzm214 (Nat.le_of_ble_eq_true rfl) rfl ?_
  refine z_xP zt214 0 2 [some (.ref 19), some (.int p1), some (.int p2), some (.int p3)] [.int p1, .ref 19] rfl rfl ?_
  refine z_xcV (vs := [.ref 19, .int p1]) (r := []) (L2 := [some (.ref 19), some (.int p1)]) zt214 1 rfl zo214 zzcV12_209 (Or.inl rfl) rfl X f19 rfl rfl rfl (Nat.le_of_ble_eq_true rfl) zzm209 (Nat.le_of_ble_eq_true rfl) rfl ?_
  refine z_xP zt209 0 1 [some (.ref 19), some (.int p1)] [.int p1] rfl rfl ?_
  refine z_xZ zt209 1 rfl rfl (fun (h1 : p1.toInt < 0) => ?_) (fun (h1 : 0 ≤ p1.toInt) => ?_)
  · skip
    refine z_xP zt209 6 17 [some (.ref 19), some (.int p1)] [.int 0] rfl rfl ?_
    refine z_xrz zt209 7 rfl zzr209 (by decide) (by decide) ?_
    show z_ev (d + 1) 214 5 [some (.ref 19), some (.int p1), some (.int p2), some (.int p3)] [.int 0] M0 _
    refine z_xZ zt214 2 rfl rfl (fun (h2 : (0 : Int) = 0) => ?_) (fun (h2 : (0 : Int) ≠ 0) => absurd h2 (by omega))
    refine z_xP zt214 13 37 [some (.ref 19), some (.int p1), some (.int p2), some (.int p3)] [.int 0] rfl rfl ?_
    refine z_xrz zt214 14 rfl zzr214 (by decide) (by decide) ?_
    show z_ev (d + 2) 217 7 [some (.ref 19), some (.int p1), some (.int p2), some (.int p3), some (.int p4)] [.int 0] M0 _
    refine z_xZ zt217 2 rfl rfl (fun (h3 : (0 : Int) = 0) => ?_) (fun (h3 : (0 : Int) ≠ 0) => absurd h3 (by omega))
    refine z_xP zt217 9 33 [some (.ref 19), some (.int p1), some (.int p2), some (.int p3), some (.int p4)] [.int (-1)] rfl rfl ?_
    have qm1 : (((-1) : Int32)).toInt = (-1) := rfl
    obtain ⟨x4, h5, h6, h7⟩ := z_W.fi X.1 f19 (k := 13) (lo := 0) (hi := 8) (by decide) rfl
    have qm1 : (((-1) : Int32)).toInt = (-1) := rfl
    exact z_xri zt217 10 rfl zzr217 (kk (-1) M0 X (by omega) (by omega) (y_qA0 h5 (by omega) (by omega)))
  refine z_xP zt209 2 6 [some (.ref 19), some (.int p1)] [.ref 19, .int p1] rfl rfl ?_
  refine z_xgI zt209 3 rfl zo209 zzf12_110 X f19 (by decide) (by decide) rfl (fun (x9 : Int32) h8 (h10 : 0 ≤ x9.toInt) (h11 : x9.toInt ≤ 8) => ?_)
  have h12 := z_b32 p1
  refine z_xJ zt209 4 rfl rfl (fun (h13 : x9.toInt ≤ p1.toInt) => ?_) (fun (h13 : p1.toInt < x9.toInt) => ?_)
  · skip
    refine z_xP zt209 6 17 [some (.ref 19), some (.int p1)] [.int 0] rfl rfl ?_
    refine z_xrz zt209 7 rfl zzr209 (by decide) (by decide) ?_
    show z_ev (d + 1) 214 5 [some (.ref 19), some (.int p1), some (.int p2), some (.int p3)] [.int 0] M0 _
    refine z_xZ zt214 2 rfl rfl (fun (h14 : (0 : Int) = 0) => ?_) (fun (h14 : (0 : Int) ≠ 0) => absurd h14 (by omega))
    refine z_xP zt214 13 37 [some (.ref 19), some (.int p1), some (.int p2), some (.int p3)] [.int 0] rfl rfl ?_
    refine z_xrz zt214 14 rfl zzr214 (by decide) (by decide) ?_
    show z_ev (d + 2) 217 7 [some (.ref 19), some (.int p1), some (.int p2), some (.int p3), some (.int p4)] [.int 0] M0 _
    refine z_xZ zt217 2 rfl rfl (fun (h15 : (0 : Int) = 0) => ?_) (fun (h15 : (0 : Int) ≠ 0) => absurd h15 (by omega))
    refine z_xP zt217 9 33 [some (.ref 19), some (.int p1), some (.int p2), some (.int p3), some (.int p4)] [.int (-1)] rfl rfl ?_
    have qm1 : (((-1) : Int32)).toInt = (-1) := rfl
    have qm1 : (((-1) : Int32)).toInt = (-1) := rfl
    exact z_xri zt217 10 rfl zzr217 (kk (-1) M0 X (by omega) (by omega) (y_qA0 h8 (by omega) (by omega)))
  refine z_xP zt209 5 17 [some (.ref 19), some (.int p1)] [.int 1] rfl rfl ?_
  refine z_xrz zt209 7 rfl zzr209 (by decide) (by decide) ?_
  show z_ev (d + 1) 214 5 [some (.ref 19), some (.int p1), some (.int p2), some (.int p3)] [.int 1] M0 _
  refine z_xZ zt214 2 rfl rfl (fun (h16 : (1 : Int) = 0) => absurd h16 (by omega)) (fun (h16 : (1 : Int) ≠ 0) => ?_)
  refine z_xP zt214 3 11 [some (.ref 19), some (.int p1), some (.int p2), some (.int p3)] [.int p2, .int p1, .ref 19] rfl rfl ?_
  refine z_xcV (vs := [.ref 19, .int p1, .int p2]) (r := []) (L2 := [some (.ref 19), some (.int p1), some (.int p2)]) zt214 4 rfl zo214 zzcV12_212 (Or.inl rfl) rfl X f19 rfl rfl rfl (Nat.le_of_ble_eq_true rfl) zzm212 (Nat.le_of_ble_eq_true rfl) rfl ?_
  refine z_xP zt212 0 1 [some (.ref 19), some (.int p1), some (.int p2)] [.int p2] rfl rfl ?_
  refine z_xZ zt212 1 rfl rfl (fun (h17 : p2.toInt < 0) => ?_) (fun (h17 : 0 ≤ p2.toInt) => ?_)
  · skip
    refine z_xP zt212 9 21 [some (.ref 19), some (.int p1), some (.int p2)] [.int 0] rfl rfl ?_
    refine z_xrz zt212 10 rfl zzr212 (by decide) (by decide) ?_
    show z_ev (d + 1) 214 14 [some (.ref 19), some (.int p1), some (.int p2), some (.int p3)] [.int 0] M0 _
    refine z_xZ zt214 5 rfl rfl (fun (h18 : (0 : Int) = 0) => ?_) (fun (h18 : (0 : Int) ≠ 0) => absurd h18 (by omega))
    refine z_xP zt214 13 37 [some (.ref 19), some (.int p1), some (.int p2), some (.int p3)] [.int 0] rfl rfl ?_
    refine z_xrz zt214 14 rfl zzr214 (by decide) (by decide) ?_
    show z_ev (d + 2) 217 7 [some (.ref 19), some (.int p1), some (.int p2), some (.int p3), some (.int p4)] [.int 0] M0 _
    refine z_xZ zt217 2 rfl rfl (fun (h19 : (0 : Int) = 0) => ?_) (fun (h19 : (0 : Int) ≠ 0) => absurd h19 (by omega))
    refine z_xP zt217 9 33 [some (.ref 19), some (.int p1), some (.int p2), some (.int p3), some (.int p4)] [.int (-1)] rfl rfl ?_
    have qm1 : (((-1) : Int32)).toInt = (-1) := rfl
    have qm1 : (((-1) : Int32)).toInt = (-1) := rfl
    exact z_xri zt217 10 rfl zzr217 (kk (-1) M0 X (by omega) (by omega) (y_qA1 h8 ⟨by omega, by omega⟩ (Or.inl ⟨by omega, (fun h => by obtain ⟨⟨w1, w2, -⟩, -, -⟩ := h; omega)⟩)))
  refine z_xP zt212 2 7 [some (.ref 19), some (.int p1), some (.int p2)] [.ref 19, .int 1, .int p2] rfl rfl ?_
  refine z_xgX (b := 24) zt212 3 rfl zo212 zzf12_22 X f19 (by decide) (by decide) rfl ?_
  refine z_xP zt212 4 11 [some (.ref 19), some (.int p1), some (.int p2)] [.int p1, .ref 24, .int 1, .int p2] rfl rfl ?_
  have f24 : T[24]? = some (.inr (24, 0, 8, 0, 10)) := X.1.k rfl (by decide)
  refine z_xil zt212 5 rfl X f24 (by decide) (by omega) (by omega) (fun (x20 : Int32) h21 (h22 : 0 ≤ x20.toInt) (h23 : x20.toInt ≤ 10) => ?_)
  refine z_xI zt212 6 rfl rfl (fun (x24 : Int32) (h25 : x24 = (1 : Int32) <<< (x20 &&& 31) ∧ 1 ≤ x24.toInt ∧ x24.toInt ≤ 1024) => ?_) (⟨rfl, z_pShlB (a := 1) (b := 10) (c := 1024) (r := 1024) rfl rfl (by omega) (by omega) (by omega) (by omega) (by decide) (by decide) (by decide) (by decide)⟩)
  have h26 := z_b32 p2
  refine z_xJ zt212 7 rfl rfl (fun (h27 : x24.toInt ≤ p2.toInt) => ?_) (fun (h27 : p2.toInt < x24.toInt) => ?_)
  · skip
    refine z_xP zt212 9 21 [some (.ref 19), some (.int p1), some (.int p2)] [.int 0] rfl rfl ?_
    refine z_xrz zt212 10 rfl zzr212 (by decide) (by decide) ?_
    show z_ev (d + 1) 214 14 [some (.ref 19), some (.int p1), some (.int p2), some (.int p3)] [.int 0] M0 _
    refine z_xZ zt214 5 rfl rfl (fun (h28 : (0 : Int) = 0) => ?_) (fun (h28 : (0 : Int) ≠ 0) => absurd h28 (by omega))
    refine z_xP zt214 13 37 [some (.ref 19), some (.int p1), some (.int p2), some (.int p3)] [.int 0] rfl rfl ?_
    refine z_xrz zt214 14 rfl zzr214 (by decide) (by decide) ?_
    show z_ev (d + 2) 217 7 [some (.ref 19), some (.int p1), some (.int p2), some (.int p3), some (.int p4)] [.int 0] M0 _
    refine z_xZ zt217 2 rfl rfl (fun (h29 : (0 : Int) = 0) => ?_) (fun (h29 : (0 : Int) ≠ 0) => absurd h29 (by omega))
    refine z_xP zt217 9 33 [some (.ref 19), some (.int p1), some (.int p2), some (.int p3), some (.int p4)] [.int (-1)] rfl rfl ?_
    have qm1 : (((-1) : Int32)).toInt = (-1) := rfl
    have i30 := z_2q1 (x := x20) (by omega) (by omega) h25.1
    have qm1 : (((-1) : Int32)).toInt = (-1) := rfl
    exact z_xri zt217 10 rfl zzr217 (kk (-1) M0 X (by omega) (by omega) (y_qA1 h8 ⟨by omega, by omega⟩ (Or.inl ⟨by omega, (fun h => by obtain ⟨⟨w1, w2, -⟩, -, -⟩ := h; rw [h21] at w1 w2; omega)⟩)))
  refine z_xP zt212 8 21 [some (.ref 19), some (.int p1), some (.int p2)] [.int 1] rfl rfl ?_
  refine z_xrz zt212 10 rfl zzr212 (by decide) (by decide) ?_
  show z_ev (d + 1) 214 14 [some (.ref 19), some (.int p1), some (.int p2), some (.int p3)] [.int 1] M0 _
  refine z_xZ zt214 5 rfl rfl (fun (h31 : (1 : Int) = 0) => absurd h31 (by omega)) (fun (h31 : (1 : Int) ≠ 0) => ?_)
  refine z_xP zt214 6 20 [some (.ref 19), some (.int p1), some (.int p2), some (.int p3)] [.int p3, .int p1, .ref 19] rfl rfl ?_
  refine z_xcV (vs := [.ref 19, .int p1, .int p3]) (r := []) (L2 := [some (.ref 19), some (.int p1), some (.int p3)]) zt214 7 rfl zo214 zzcV12_212 (Or.inl rfl) rfl X f19 rfl rfl rfl (Nat.le_of_ble_eq_true rfl) zzm212 (Nat.le_of_ble_eq_true rfl) rfl ?_
  refine z_xP zt212 0 1 [some (.ref 19), some (.int p1), some (.int p3)] [.int p3] rfl rfl ?_
  refine z_xZ zt212 1 rfl rfl (fun (h32 : p3.toInt < 0) => ?_) (fun (h32 : 0 ≤ p3.toInt) => ?_)
  · skip
    refine z_xP zt212 9 21 [some (.ref 19), some (.int p1), some (.int p3)] [.int 0] rfl rfl ?_
    refine z_xrz zt212 10 rfl zzr212 (by decide) (by decide) ?_
    show z_ev (d + 1) 214 23 [some (.ref 19), some (.int p1), some (.int p2), some (.int p3)] [.int 0] M0 _
    refine z_xZ zt214 8 rfl rfl (fun (h33 : (0 : Int) = 0) => ?_) (fun (h33 : (0 : Int) ≠ 0) => absurd h33 (by omega))
    refine z_xP zt214 13 37 [some (.ref 19), some (.int p1), some (.int p2), some (.int p3)] [.int 0] rfl rfl ?_
    refine z_xrz zt214 14 rfl zzr214 (by decide) (by decide) ?_
    show z_ev (d + 2) 217 7 [some (.ref 19), some (.int p1), some (.int p2), some (.int p3), some (.int p4)] [.int 0] M0 _
    refine z_xZ zt217 2 rfl rfl (fun (h34 : (0 : Int) = 0) => ?_) (fun (h34 : (0 : Int) ≠ 0) => absurd h34 (by omega))
    refine z_xP zt217 9 33 [some (.ref 19), some (.int p1), some (.int p2), some (.int p3), some (.int p4)] [.int (-1)] rfl rfl ?_
    have qm1 : (((-1) : Int32)).toInt = (-1) := rfl
    have i35 := z_2q1 (x := x20) (by omega) (by omega) h25.1
    have qm1 : (((-1) : Int32)).toInt = (-1) := rfl
    exact z_xri zt217 10 rfl zzr217 (kk (-1) M0 X (by omega) (by omega) (y_qA1 h8 ⟨by omega, by omega⟩ (Or.inl ⟨by omega, (fun h => by obtain ⟨⟨w1, w2, -⟩, -, -⟩ := h; rw [h21] at w1 w2; omega)⟩)))
  refine z_xP zt212 2 7 [some (.ref 19), some (.int p1), some (.int p3)] [.ref 19, .int 1, .int p3] rfl rfl ?_
  refine z_xgX (b := 24) zt212 3 rfl zo212 zzf12_22 X f19 (by decide) (by decide) rfl ?_
  refine z_xP zt212 4 11 [some (.ref 19), some (.int p1), some (.int p3)] [.int p1, .ref 24, .int 1, .int p3] rfl rfl ?_
  refine z_xil zt212 5 rfl X f24 (by decide) (by omega) (by omega) (fun (x36 : Int32) h37 (h38 : 0 ≤ x36.toInt) (h39 : x36.toInt ≤ 10) => ?_)
  have h40 := congrArg Int32.toInt (h37.symm.trans h21)
  refine z_xI zt212 6 rfl rfl (fun (x41 : Int32) (h42 : x41 = (1 : Int32) <<< (x36 &&& 31) ∧ 1 ≤ x41.toInt ∧ x41.toInt ≤ 1024) => ?_) (⟨rfl, z_pShlB (a := 1) (b := 10) (c := 1024) (r := 1024) rfl rfl (by omega) (by omega) (by omega) (by omega) (by decide) (by decide) (by decide) (by decide)⟩)
  have h43 := z_b32 p3
  refine z_xJ zt212 7 rfl rfl (fun (h44 : x41.toInt ≤ p3.toInt) => ?_) (fun (h44 : p3.toInt < x41.toInt) => ?_)
  · skip
    refine z_xP zt212 9 21 [some (.ref 19), some (.int p1), some (.int p3)] [.int 0] rfl rfl ?_
    refine z_xrz zt212 10 rfl zzr212 (by decide) (by decide) ?_
    show z_ev (d + 1) 214 23 [some (.ref 19), some (.int p1), some (.int p2), some (.int p3)] [.int 0] M0 _
    refine z_xZ zt214 8 rfl rfl (fun (h45 : (0 : Int) = 0) => ?_) (fun (h45 : (0 : Int) ≠ 0) => absurd h45 (by omega))
    refine z_xP zt214 13 37 [some (.ref 19), some (.int p1), some (.int p2), some (.int p3)] [.int 0] rfl rfl ?_
    refine z_xrz zt214 14 rfl zzr214 (by decide) (by decide) ?_
    show z_ev (d + 2) 217 7 [some (.ref 19), some (.int p1), some (.int p2), some (.int p3), some (.int p4)] [.int 0] M0 _
    refine z_xZ zt217 2 rfl rfl (fun (h46 : (0 : Int) = 0) => ?_) (fun (h46 : (0 : Int) ≠ 0) => absurd h46 (by omega))
    refine z_xP zt217 9 33 [some (.ref 19), some (.int p1), some (.int p2), some (.int p3), some (.int p4)] [.int (-1)] rfl rfl ?_
    have qm1 : (((-1) : Int32)).toInt = (-1) := rfl
    have i47 := z_2q1 (x := x20) (by omega) (by omega) h25.1
    have i48 := z_2q1 (x := x36) (by omega) (by omega) h42.1
    rw [show x36 = x20 from h37.symm.trans h21] at i48
    have qm1 : (((-1) : Int32)).toInt = (-1) := rfl
    exact z_xri zt217 10 rfl zzr217 (kk (-1) M0 X (by omega) (by omega) (y_qA1 h8 ⟨by omega, by omega⟩ (Or.inl ⟨by omega, (fun h => by obtain ⟨⟨w1, w2, -⟩, -, -⟩ := h; rw [h21] at w1 w2; omega)⟩)))
  refine z_xP zt212 8 21 [some (.ref 19), some (.int p1), some (.int p3)] [.int 1] rfl rfl ?_
  refine z_xrz zt212 10 rfl zzr212 (by decide) (by decide) ?_
  show z_ev (d + 1) 214 23 [some (.ref 19), some (.int p1), some (.int p2), some (.int p3)] [.int 1] M0 _
  refine z_xZ zt214 8 rfl rfl (fun (h49 : (1 : Int) = 0) => absurd h49 (by omega)) (fun (h49 : (1 : Int) ≠ 0) => ?_)
  refine z_xP zt214 9 28 [some (.ref 19), some (.int p1), some (.int p2), some (.int p3)] [.int p3, .int p2] rfl rfl ?_
  refine z_xI zt214 10 rfl rfl (fun (x50 : Int32) (h51 : x50 = p2 &&& p3 ∧ 0 ≤ x50.toInt ∧ x50.toInt ≤ p2.toInt ∧ x50.toInt ≤ p3.toInt) => ?_) (⟨rfl, z_pAnd2 rfl rfl (by omega) (by omega)⟩)
  refine z_xZ zt214 11 rfl rfl (fun (h52 : x50.toInt ≠ 0) => ?_) (fun (h52 : x50.toInt = 0) => ?_)
  · skip
    refine z_xP zt214 13 37 [some (.ref 19), some (.int p1), some (.int p2), some (.int p3)] [.int 0] rfl rfl ?_
    refine z_xrz zt214 14 rfl zzr214 (by decide) (by decide) ?_
    show z_ev (d + 2) 217 7 [some (.ref 19), some (.int p1), some (.int p2), some (.int p3), some (.int p4)] [.int 0] M0 _
    refine z_xZ zt217 2 rfl rfl (fun (h53 : (0 : Int) = 0) => ?_) (fun (h53 : (0 : Int) ≠ 0) => absurd h53 (by omega))
    refine z_xP zt217 9 33 [some (.ref 19), some (.int p1), some (.int p2), some (.int p3), some (.int p4)] [.int (-1)] rfl rfl ?_
    have qm1 : (((-1) : Int32)).toInt = (-1) := rfl
    have i54 := z_2q1 (x := x20) (by omega) (by omega) h25.1
    have i55 := z_2q1 (x := x36) (by omega) (by omega) h42.1
    rw [show x36 = x20 from h37.symm.trans h21] at i55
    have qm1 : (((-1) : Int32)).toInt = (-1) := rfl
    exact z_xri zt217 10 rfl zzr217 (kk (-1) M0 X (by omega) (by omega) (y_qA1 h8 ⟨by omega, by omega⟩ (Or.inl ⟨by omega, (fun h => by obtain ⟨⟨-, -, w3⟩, w4, w5⟩ := h; rw [← h51.1] at w3; rw [h21] at w5; omega)⟩)))
  refine z_xP zt214 12 37 [some (.ref 19), some (.int p1), some (.int p2), some (.int p3)] [.int 1] rfl rfl ?_
  refine z_xrz zt214 14 rfl zzr214 (by decide) (by decide) ?_
  show z_ev (d + 2) 217 7 [some (.ref 19), some (.int p1), some (.int p2), some (.int p3), some (.int p4)] [.int 1] M0 _
  refine z_xZ zt217 2 rfl rfl (fun (h56 : (1 : Int) = 0) => absurd h56 (by omega)) (fun (h56 : (1 : Int) ≠ 0) => ?_)
  refine z_xP zt217 3 14 [some (.ref 19), some (.int p1), some (.int p2), some (.int p3), some (.int p4)] [.int p4, .int p1, .ref 19] rfl rfl ?_
  refine z_xcV (vs := [.ref 19, .int p1, .int p4]) (r := []) (L2 := [some (.ref 19), some (.int p1), some (.int p4)]) zt217 4 rfl zo217 zzcV12_225 (Or.inl rfl) rfl X f19 rfl rfl rfl (Nat.le_of_ble_eq_true rfl) zzm218 (Nat.le_of_ble_eq_true rfl) rfl ?_
  refine z_xP zt218 0 1 [some (.ref 19), some (.int p1), some (.int p4)] [.int p4] rfl rfl ?_
  refine z_xZ zt218 1 rfl rfl (fun (h57 : p4.toInt < 0) => ?_) (fun (h57 : 0 ≤ p4.toInt) => ?_)
  · skip
    refine z_xP zt218 8 19 [some (.ref 19), some (.int p1), some (.int p4)] [.int 0] rfl rfl ?_
    refine z_xrz zt218 9 rfl zzr218 (by decide) (by decide) ?_
    show z_ev (d + 2) 217 17 [some (.ref 19), some (.int p1), some (.int p2), some (.int p3), some (.int p4)] [.int 0] M0 _
    refine z_xZ zt217 5 rfl rfl (fun (h58 : (0 : Int) = 0) => ?_) (fun (h58 : (0 : Int) ≠ 0) => absurd h58 (by omega))
    refine z_xP zt217 9 33 [some (.ref 19), some (.int p1), some (.int p2), some (.int p3), some (.int p4)] [.int (-1)] rfl rfl ?_
    have qm1 : (((-1) : Int32)).toInt = (-1) := rfl
    have i59 := z_2q1 (x := x20) (by omega) (by omega) h25.1
    have i60 := z_2q1 (x := x36) (by omega) (by omega) h42.1
    rw [show x36 = x20 from h37.symm.trans h21] at i60
    have qm1 : (((-1) : Int32)).toInt = (-1) := rfl
    exact z_xri zt217 10 rfl zzr217 (kk (-1) M0 X (by omega) (by omega) (y_qA1 h8 ⟨by omega, by omega⟩ (Or.inl ⟨by omega, (fun h => by obtain ⟨⟨-, -, w3⟩, w4, w5⟩ := h; rw [← h51.1] at w3; rw [h21] at w5; omega)⟩)))
  refine z_xP zt218 2 6 [some (.ref 19), some (.int p1), some (.int p4)] [.ref 19, .int p4] rfl rfl ?_
  refine z_xgX (b := 24) zt218 3 rfl zo218 zzf12_22 X f19 (by decide) (by decide) rfl ?_
  refine z_xP zt218 4 10 [some (.ref 19), some (.int p1), some (.int p4)] [.int p1, .ref 24, .int p4] rfl rfl ?_
  refine z_xil zt218 5 rfl X f24 (by decide) (by omega) (by omega) (fun (x61 : Int32) h62 (h63 : 0 ≤ x61.toInt) (h64 : x61.toInt ≤ 10) => ?_)
  have h65 := congrArg Int32.toInt (h62.symm.trans h21)
  have h66 := z_b32 p4
  refine z_xJ zt218 6 rfl rfl (fun (h67 : x61.toInt ≤ p4.toInt) => ?_) (fun (h67 : p4.toInt < x61.toInt) => ?_)
  · skip
    refine z_xP zt218 8 19 [some (.ref 19), some (.int p1), some (.int p4)] [.int 0] rfl rfl ?_
    refine z_xrz zt218 9 rfl zzr218 (by decide) (by decide) ?_
    show z_ev (d + 2) 217 17 [some (.ref 19), some (.int p1), some (.int p2), some (.int p3), some (.int p4)] [.int 0] M0 _
    refine z_xZ zt217 5 rfl rfl (fun (h68 : (0 : Int) = 0) => ?_) (fun (h68 : (0 : Int) ≠ 0) => absurd h68 (by omega))
    refine z_xP zt217 9 33 [some (.ref 19), some (.int p1), some (.int p2), some (.int p3), some (.int p4)] [.int (-1)] rfl rfl ?_
    have qm1 : (((-1) : Int32)).toInt = (-1) := rfl
    have i69 := z_2q1 (x := x20) (by omega) (by omega) h25.1
    have i70 := z_2q1 (x := x36) (by omega) (by omega) h42.1
    rw [show x36 = x20 from h37.symm.trans h21] at i70
    have qm1 : (((-1) : Int32)).toInt = (-1) := rfl
    exact z_xri zt217 10 rfl zzr217 (kk (-1) M0 X (by omega) (by omega) (y_qA1 h8 ⟨by omega, by omega⟩ (Or.inl ⟨by omega, (fun h => by obtain ⟨⟨-, -, w3⟩, w4, w5⟩ := h; rw [← h51.1] at w3; rw [h21] at w5; omega)⟩)))
  refine z_xP zt218 7 19 [some (.ref 19), some (.int p1), some (.int p4)] [.int 1] rfl rfl ?_
  refine z_xrz zt218 9 rfl zzr218 (by decide) (by decide) ?_
  show z_ev (d + 2) 217 17 [some (.ref 19), some (.int p1), some (.int p2), some (.int p3), some (.int p4)] [.int 1] M0 _
  refine z_xZ zt217 5 rfl rfl (fun (h71 : (1 : Int) = 0) => absurd h71 (by omega)) (fun (h71 : (1 : Int) ≠ 0) => ?_)
  refine z_xP zt217 6 26 [some (.ref 19), some (.int p1), some (.int p2), some (.int p3), some (.int p4)] [.int p4, .int p3, .int p2, .int p1, .ref 19] rfl rfl ?_
  refine z_xcV (vs := [.ref 19, .int p1, .int p2, .int p3, .int p4]) (r := []) (L2 := [some (.ref 19), some (.int p1), some (.int p2), some (.int p3), some (.int p4), none, none, none, none]) zt217 7 rfl zo217 zzcV12_228 (Or.inl rfl) rfl X f19 rfl rfl rfl (Nat.le_of_ble_eq_true rfl) zzm219 (Nat.le_of_ble_eq_true rfl) rfl ?_
  refine zUC219 X.1 (by omega) ⟨by omega, by omega⟩ (fun x75 M72 X73 h76 h77 h74 => ?_)
  have X78 := X.go X73 (z_sb (by decide))
  show z_ev (d + 2) 217 29 [some (.ref 19), some (.int p1), some (.int p2), some (.int p3), some (.int p4)] [.int x75] M72 _
  refine z_xP zt217 8 33 [some (.ref 19), some (.int p1), some (.int p2), some (.int p3), some (.int p4)] [.int x75] rfl rfl ?_
  have i80 := z_2q1 (x := x20) (by omega) (by omega) h25.1
  have i81 := z_2q1 (x := x36) (by omega) (by omega) h42.1
  rw [show x36 = x20 from h37.symm.trans h21] at i81
  exact z_xri zt217 10 rfl zzr217 (kk x75 M72 X78 (by omega) (by omega) (y_qA1 h8 ⟨by omega, by omega⟩ (Or.inr ⟨⟨⟨by rw [h21]; exact ⟨by omega, by omega⟩, by rw [h21]; exact ⟨by omega, by omega⟩, by rw [← h51.1]; omega⟩, by omega, by rw [h21]; omega⟩, h74⟩)))
def z_Q6 (I : zH → Prop) : Prop := ∀ (x1 : Int32) (x2 : Int32) (x3 : Int32) (x4 : Int32) (M : zH), I M → z_ev 2046 47 0 (z_ent [.ref 4, .int x1, .int x2, .int x3, .int x4] (z_ml 47)) [] M fun v M1 => (∃ y, v = some (.int y)) ∧ z_ev 2046 217 0 (z_ent [.ref 19, .int x1, .int x2, .int x3, .int x4] (z_ml 217)) [] M1 fun v2 M2 => (∃ y, v2 = some (.int y)) ∧ v = v2 ∧ I M2 ∧ M2.length ≤ M.length + 1171 ∧ z_szr M2 ≤ z_szr M + 14000
theorem zS6 : z_Q6 z_J := by
  intro x1 x2 x3 x4 M ⟨T, hA, hR⟩
  refine z_J.two (r1 := zw47) (r2 := zw217) (C := fun v v2 => v = v2) hA hR rfl rfl ?_
  rw [zzm47]
  show z_ev 2046 47 0 [some (.ref 4), some (.int x1), some (.int x2), some (.int x3), some (.int x4), none, none] [] M _
  refine zUC47 (d := 2043) hA.1.1 hR.2.1 hA.1 fun y M1 X1 _ _ h1 => ?_
  have hB := z_kee hA X1 (by decide)
  refine ⟨⟨y, rfl⟩, X1, ?_⟩
  rw [zzm217]
  show z_ev 2046 217 0 [some (.ref 19), some (.int x1), some (.int x2), some (.int x3), some (.int x4)] [] M1 _
  refine zUC217 (d := 2044) hB.1.1 fun z M2 X2 _ _ h2 => ?_
  have k19 : T[19]? = some (.inl (12, 0, 0, 0, 0)) := hA.1.1.k rfl (by decide)
  have e := z_qAs hA.1.1 X1.2 rfl ((congrArg Int32.toInt (z_FvK (X1.2.1 19 12 0 0 0 0 13 k19 (by decide)))).trans (z_R5.v hR.1).2.1) h1 h2 (fun q t m pr en B hY q10 hm a b => by
    have e24 := hY.1
    have e31 := hY.2.2.2.2.1
    have e30 := hY.2.2.2.2.2.2
    have eq : (z_Ar M1 24 x1.toNatClampNeg).toInt.toNat = q := by omega
    rw [eq] at b
    rcases a with ⟨a1, a2⟩ | ⟨a1, a2⟩
    · rcases b with ⟨b1, _⟩ | ⟨b1, _⟩
      · rw [a1, b1]
      · exact absurd b1 a2
    · rcases b with ⟨_, b1⟩ | ⟨_, b1⟩
      · exact absurd a1 b1
      · exact z_same6 e30 (show (z_Ar M1 31 x1.toNatClampNeg).toInt.toNat = z_lc B (2 ^ q) from by omega) q10 a1.1 a2 b1)
  exact ⟨⟨z, rfl⟩, by rw [Int32.toInt_inj.mp e], X2⟩
