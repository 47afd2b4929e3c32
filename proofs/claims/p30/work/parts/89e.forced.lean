/-! forced of both sides -/
theorem zUB49 {T : List zK} {d : Nat} {K : Option Value → zH → Prop} {a0 : Nat} {q : Nat} {t : Nat} {m : Nat} {p1 : Int32} {uy un pr en : Nat} {B : Nat → Nat} {M0 : zH} (k0 : T[a0]? = some (.inl (2, q, t, m, 0))) (hag : z_AGO T M0 a0 q t m pr en B) (hd : p1.toInt = (uy : Int) + 1024 * (un : Int) ∧ uy < 1024 ∧ un < 1024) (hu : uy < 2 ^ q ∧ un < 2 ^ q) (kk : ∀ (x : Int32) (M1 : zH), z_X T zw49 M0 M1 → (-1) ≤ x.toInt → x.toInt ≤ 1048575 → z_imp B q uy un x.toInt → K (some (.int x)) M1) : ∀ n : Nat, (∀ (M : zH) (b2 : Int32) (b3 : Int32) (b4 : Int32) (o5 : Option Value) (o7 : Option Value) (o8 : Option Value), z_X T zw49 M0 M → 0 ≤ b2.toInt ∧ b2.toInt ≤ 1023 → 0 ≤ b3.toInt ∧ b3.toInt ≤ 1023 → 0 ≤ b4.toInt ∧ b4.toInt ≤ 16 → z_iw B q uy un b4.toInt.toNat 0 1 b2.toInt → z_iw B q uy un b4.toInt.toNat 0 0 b3.toInt → ((((0) * 3 + 1) * 17 + (16 - b4.toInt)) * 3 + 2) * 11 + (0) < (n : Int) → z_ev (d + 2) 49 7 [some (.ref a0), some (.int p1), some (.int b2), some (.int b3), some (.int b4), o5, none, o7, o8, none] [] M K) ∧ (∀ (M : zH) (b2 : Int32) (b3 : Int32) (b4 : Int32) (b5 : Int64) (b7 : Int32) (o8 : Option Value), z_X T zw49 M0 M → 0 ≤ b2.toInt ∧ b2.toInt ≤ 1023 → 0 ≤ b3.toInt ∧ b3.toInt ≤ 1023 → 0 ≤ b4.toInt ∧ b4.toInt ≤ 15 → 0 ≤ b7.toInt ∧ b7.toInt ≤ 10 → b4.toInt < ((z_sp m : Nat) : Int) → z_iw B q uy un b4.toInt.toNat b7.toInt.toNat 1 b2.toInt → z_iw B q uy un b4.toInt.toNat b7.toInt.toNat 0 b3.toInt → (∀ i, i < 64 → (b5.toBitVec.getLsbD i = true ↔ ∃ a, a < 2 ^ q ∧ B a = 0 ∧ z_lc B a = 64 * b4.toInt.toNat + i ∧ z_has a uy un)) → ((((0) * 3 + 1) * 17 + (16 - b4.toInt)) * 3 + 0) * 11 + (10 - b7.toInt) < (n : Int) → z_ev (d + 2) 49 28 [some (.ref a0), some (.int p1), some (.int b2), some (.int b3), some (.int b4), some (.long b5), none, some (.int b7), o8, none] [] M K) := by
  intro n
  induction n with
  | zero => exact ⟨(by intros; exfalso; omega), (by intros; exfalso; omega)⟩
  | succ n ih =>
    refine ⟨?_, ?_⟩
    · skip
      intro M b2 b3 b4 o5 o7 o8 X hh0 hh1 hh2 hY hN hE
      have g0 := X.1.p2 k0
      refine z_xP zt49 1 10 [some (.ref a0), some (.int p1), some (.int b2), some (.int b3), some (.int b4), o5, none, o7, o8, none] [.ref a0, .int b4] rfl rfl ?_
      refine z_xgI zt49 2 rfl zo49 zzf2_63 X k0 (by decide) (by decide) rfl (fun (x2 : Int32) h1 (h3 : ((z_sp m : Nat) : Int) ≤ x2.toInt) (h4 : x2.toInt ≤ ((z_sp m : Nat) : Int)) => ?_)
      refine z_xJ zt49 3 rfl rfl (fun (h5 : x2.toInt ≤ b4.toInt) => ?_) (fun (h5 : b4.toInt < x2.toInt) => ?_)
      · skip
        refine z_xP zt49 45 113 [some (.ref a0), some (.int p1), some (.int b2), some (.int b3), some (.int b4), o5, none, o7, o8, none] [.int b3, .int b2] rfl rfl ?_
        refine z_xI zt49 46 rfl rfl (fun (x6 : Int32) (h7 : x6 = b2 ||| b3 ∧ 0 ≤ x6.toInt ∧ x6.toInt < 1024 ∧ b2.toInt ≤ x6.toInt ∧ b3.toInt ≤ x6.toInt) => ?_) (⟨rfl, z_pOr 10 rfl rfl (by omega) (by omega) (by decide) (by omega) (by omega) (by decide)⟩)
        refine z_xZ zt49 47 rfl rfl (fun (h8 : x6.toInt ≠ 0) => ?_) (fun (h8 : x6.toInt = 0) => ?_)
        · skip
          refine z_xP zt49 50 122 [some (.ref a0), some (.int p1), some (.int b2), some (.int b3), some (.int b4), o5, none, o7, o8, none] [.int (-1), .int b3, .int b2] rfl rfl ?_
          refine z_xI zt49 51 rfl rfl (fun (x9 : Int32) (h10 : x9 = b3 ^^^ ((-1) : Int32)) => ?_) (rfl)
          refine z_xI zt49 52 rfl rfl (fun (x11 : Int32) (h12 : x11 = b2 &&& x9 ∧ 0 ≤ x11.toInt ∧ x11.toInt ≤ b2.toInt) => ?_) (⟨rfl, z_pAndL rfl (by omega)⟩)
          refine z_xP zt49 53 127 [some (.ref a0), some (.int p1), some (.int b2), some (.int b3), some (.int b4), o5, none, o7, o8, none] [.int (-1), .int b2, .int b3, .int x11] rfl rfl ?_
          refine z_xI zt49 54 rfl rfl (fun (x13 : Int32) (h14 : x13 = b2 ^^^ ((-1) : Int32)) => ?_) (rfl)
          refine z_xI zt49 55 rfl rfl (fun (x15 : Int32) (h16 : x15 = b3 &&& x13 ∧ 0 ≤ x15.toInt ∧ x15.toInt ≤ b3.toInt) => ?_) (⟨rfl, z_pAndL rfl (by omega)⟩)
          refine z_xP zt49 56 131 [some (.ref a0), some (.int p1), some (.int b2), some (.int b3), some (.int b4), o5, none, o7, o8, none] [.int 10, .int x15, .int x11] rfl rfl ?_
          refine z_xI zt49 57 rfl rfl (fun (x17 : Int32) (h18 : x17 = x15 <<< ((10 : Int32) &&& 31) ∧ x17.toInt = x15.toInt * 1024) => ?_) (⟨rfl, z_pShl 10 rfl rfl (by decide) (by decide) (by omega) rfl (by omega)⟩)
          refine z_xI zt49 58 rfl rfl (fun (x19 : Int32) (h20 : x19 = x11 ||| x17 ∧ 0 ≤ x19.toInt ∧ x19.toInt < 1048576 ∧ x11.toInt ≤ x19.toInt ∧ x17.toInt ≤ x19.toInt) => ?_) (⟨rfl, z_pOr 20 rfl rfl (by omega) (by omega) (by decide) (by omega) (by omega) (by decide)⟩)
          have hm21 := hag.2.2.1
          exact z_xri zt49 59 rfl zzr49 (kk x19 M X (by omega) (by omega) (z_imp1 hY hN hm21 (by omega) h7.1 (by omega) h10 h12.1 h14 h16.1 h18.1 h20.1))
        refine z_xP zt49 48 118 [some (.ref a0), some (.int p1), some (.int b2), some (.int b3), some (.int b4), o5, none, o7, o8, none] [.int (-1)] rfl rfl ?_
        have qm1 : (((-1) : Int32)).toInt = (-1) := rfl
        have hm22 := hag.2.2.1
        have qm1 : (((-1) : Int32)).toInt = (-1) := rfl
        exact z_xri zt49 49 rfl zzr49 (kk (-1) M X (by omega) (by omega) (z_imp0 hY hN hm22 (by omega) (by omega) h7.1 (by omega) (by omega)))
      refine z_xP zt49 4 20 [some (.ref a0), some (.int p1), some (.int b2), some (.int b3), some (.int b4), o5, none, o7, o8, none] [.int b4, .int p1, .ref a0] rfl rfl ?_
      refine z_xcV (vs := [.ref a0, .int p1, .int b4]) (r := []) (L2 := [some (.ref a0), some (.int p1), some (.int b4), none, none, none]) zt49 5 rfl zo49 zzcV2_83 (Or.inl rfl) rfl X k0 rfl rfl rfl (Nat.le_of_ble_eq_true rfl) zzm45 (Nat.le_of_ble_eq_true rfl) rfl ?_
      obtain ⟨-, -, hm23, -, -, -, -, -, -, ⟨ya24, e11_25, k11_26, f11_27⟩⟩ := hag
      refine zUC45 X.1 k0 (by omega) (by omega) hd (X.2.f k0 (by decide) e11_25) k11_26 (fun y31 M28 X29 h30 => ?_)
      have X32 := X.go X29 (z_sb (by decide))
      show z_ev (d + 2) 49 23 [some (.ref a0), some (.int p1), some (.int b2), some (.int b3), some (.int b4), o5, none, o7, o8, none] [.long y31] M28 _
      refine z_xP zt49 6 28 [some (.ref a0), some (.int p1), some (.int b2), some (.int b3), some (.int b4), some (.long y31), none, some (.int 0), o8, none] [] rfl rfl ?_
      rw [X.2.lg k11_26 (by decide)] at h30
      have i34 := z_gvS f11_27 hm23 g0.1.2.1 hu.1 hu.2 (by omega) h30
      have q0 : ((0 : Int32)).toInt = 0 := rfl
      exact ih.2 M28 b2 b3 b4 y31 (0) (o8) X32 ⟨by omega, by omega⟩ ⟨by omega, by omega⟩ ⟨by omega, by omega⟩ (by decide) (by omega) hY hN i34 (by omega)
    · skip
      intro M b2 b3 b4 b5 b7 o8 X hh0 hh1 hh2 hh3 hh4 hY hN hL hE
      have g0 := X.1.p2 k0
      refine z_xP zt49 7 31 [some (.ref a0), some (.int p1), some (.int b2), some (.int b3), some (.int b4), some (.long b5), none, some (.int b7), o8, none] [.ref a0, .int b7] rfl rfl ?_
      refine z_xgI zt49 8 rfl zo49 zzf2_15 X k0 (by decide) (by decide) rfl (fun (x2 : Int32) h1 (h3 : (q : Int) ≤ x2.toInt) (h4 : x2.toInt ≤ (q : Int)) => ?_)
      refine z_xJ zt49 9 rfl rfl (fun (h5 : x2.toInt ≤ b7.toInt) => ?_) (fun (h5 : b7.toInt < x2.toInt) => ?_)
      · skip
        refine z_xN zt49 43 rfl rfl (fun (x6 : Int32) (h7 : x6.toInt = b4.toInt + 1) => ?_) (z_pAdd rfl rfl (by omega) (by omega))
        show z_ev (d + 2) 49 108 [some (.ref a0), some (.int p1), some (.int b2), some (.int b3), some (.int x6), some (.long b5), none, some (.int b7), o8, none] [] M _
        refine z_xP zt49 44 7 [some (.ref a0), some (.int p1), some (.int b2), some (.int b3), some (.int x6), some (.long b5), none, some (.int b7), o8, none] [] rfl rfl ?_
        have i8 : x6.toInt.toNat = b4.toInt.toNat + 1 := by omega
        have i9 : x6.toInt.toNat = b4.toInt.toNat + 1 := by omega
        exact ih.1 M b2 b3 x6 (some (.long b5)) (some (.int b7)) (o8) X ⟨by omega, by omega⟩ ⟨by omega, by omega⟩ ⟨by omega, by omega⟩ (by rw [i8]; exact z_iwN hY (by omega)) (by rw [i9]; exact z_iwN hN (by omega)) (by omega)
      refine z_xP zt49 10 40 [some (.ref a0), some (.int p1), some (.int b2), some (.int b3), some (.int b4), some (.long b5), none, some (.int b7), o8, none] [.long 0, .long b5] rfl rfl ?_
      refine z_xI zt49 11 rfl rfl (fun (x10 : Int32) (h11 : (x10.toInt < 0 ∧ b5.toInt < 0) ∨ (x10.toInt = 0 ∧ b5.toInt = 0) ∨ (0 < x10.toInt ∧ 0 < b5.toInt)) => ?_) (z_qCmp rfl rfl)
      refine z_xZ zt49 12 rfl rfl (fun (h12 : x10.toInt = 0) => ?_) (fun (h12 : x10.toInt ≠ 0) => ?_)
      · skip
        refine z_xN zt49 43 rfl rfl (fun (x13 : Int32) (h14 : x13.toInt = b4.toInt + 1) => ?_) (z_pAdd rfl rfl (by omega) (by omega))
        show z_ev (d + 2) 49 108 [some (.ref a0), some (.int p1), some (.int b2), some (.int b3), some (.int x13), some (.long b5), none, some (.int b7), o8, none] [] M _
        refine z_xP zt49 44 7 [some (.ref a0), some (.int p1), some (.int b2), some (.int b3), some (.int x13), some (.long b5), none, some (.int b7), o8, none] [] rfl rfl ?_
        have i15 : x13.toInt.toNat = b4.toInt.toNat + 1 := by omega
        have i16 : x13.toInt.toNat = b4.toInt.toNat + 1 := by omega
        exact ih.1 M b2 b3 x13 (some (.long b5)) (some (.int b7)) (o8) X ⟨by omega, by omega⟩ ⟨by omega, by omega⟩ ⟨by omega, by omega⟩ (by rw [i15]; exact z_iwZ hY (z_imz hL (by omega))) (by rw [i16]; exact z_iwZ hN (z_imz hL (by omega))) (by omega)
      refine z_xP zt49 13 45 [some (.ref a0), some (.int p1), some (.int b2), some (.int b3), some (.int b4), some (.long b5), none, some (.int b7), o8, none] [.ref a0] rfl rfl ?_
      refine z_xgR (κ := .inr (111, 1, q * z_sp m, 0, 0)) zt49 14 rfl zo49 zzf2_66 X k0 (by decide) (by decide) rfl (fun (a18 : Nat) h17 k19 => ?_)
      refine z_xP zt49 15 51 [some (.ref a0), some (.int p1), some (.int b2), some (.int b3), some (.int b4), some (.long b5), none, some (.int b7), o8, none] [.ref a0, .int b7, .ref a18] rfl rfl ?_
      refine z_xgI zt49 16 rfl zo49 zzf2_63 X k0 (by decide) (by decide) rfl (fun (x21 : Int32) h20 (h22 : ((z_sp m : Nat) : Int) ≤ x21.toInt) (h23 : x21.toInt ≤ ((z_sp m : Nat) : Int)) => ?_)
      refine z_xI zt49 17 rfl rfl (fun (x24 : Int32) (h25 : x24.toInt = b7.toInt * x21.toInt ∧ 0 ≤ x24.toInt ∧ x24.toInt ≤ 144) => ?_) (z_pMulB (a := 9) (b := 16) rfl rfl (by omega) (by omega) (by omega) (by omega) (by decide) (by decide))
      refine z_xP zt49 18 57 [some (.ref a0), some (.int p1), some (.int b2), some (.int b3), some (.int b4), some (.long b5), none, some (.int b7), o8, none] [.int b4, .int x24, .ref a18] rfl rfl ?_
      refine z_xI zt49 19 rfl rfl (fun (x26 : Int32) (h27 : x26.toInt = x24.toInt + b4.toInt) => ?_) (z_pAdd rfl rfl (by omega) (by omega))
      have h28 := z_nlx (p := x24.toInt) (x := b7.toInt) (y := x21.toInt) (s := b4.toInt) (z := x26.toInt) (A := q) (B := z_sp m) (by omega) (by omega) (by omega) (by omega) (by omega) (by omega) (by omega)
      refine z_xllv zt49 20 rfl X k19 (by decide) h28.1 h28.2 (fun (y29 : Int64) h30 => ?_)
      refine z_xP zt49 21 65 [some (.ref a0), some (.int p1), some (.int b2), some (.int b3), some (.int b4), some (.long b5), none, some (.int b7), some (.long y29), none] [.long y29, .long b5] rfl rfl ?_
      refine z_xL zt49 22 rfl rfl (fun (y31 : Int64) (h32 : y31 = b5 &&& y29) => ?_) (rfl)
      refine z_xP zt49 23 67 [some (.ref a0), some (.int p1), some (.int b2), some (.int b3), some (.int b4), some (.long b5), none, some (.int b7), some (.long y29), none] [.long 0, .long y31] rfl rfl ?_
      refine z_xI zt49 24 rfl rfl (fun (x33 : Int32) (h34 : (x33.toInt < 0 ∧ y31.toInt < 0) ∨ (x33.toInt = 0 ∧ y31.toInt = 0) ∨ (0 < x33.toInt ∧ 0 < y31.toInt)) => ?_) (z_qCmp rfl rfl)
      refine z_xZ zt49 25 rfl rfl (fun (h35 : x33.toInt = 0) => ?_) (fun (h35 : x33.toInt ≠ 0) => ?_)
      · skip
        refine z_xP zt49 30 82 [some (.ref a0), some (.int p1), some (.int b2), some (.int b3), some (.int b4), some (.long b5), none, some (.int b7), some (.long y29), none] [.long y29, .long b5] rfl rfl ?_
        refine z_xl2 zt49 31 rfl zo49 zkl2_38 ?_
        refine z_xL zt49 32 rfl rfl (fun (y36 : Int64) (h37 : y36 = y29 ^^^ (-1)) => ?_) (rfl)
        refine z_xL zt49 33 rfl rfl (fun (y38 : Int64) (h39 : y38 = b5 &&& y36) => ?_) (rfl)
        refine z_xP zt49 34 88 [some (.ref a0), some (.int p1), some (.int b2), some (.int b3), some (.int b4), some (.long b5), none, some (.int b7), some (.long y29), none] [.long 0, .long y38] rfl rfl ?_
        refine z_xI zt49 35 rfl rfl (fun (x40 : Int32) (h41 : (x40.toInt < 0 ∧ y38.toInt < 0) ∨ (x40.toInt = 0 ∧ y38.toInt = 0) ∨ (0 < x40.toInt ∧ 0 < y38.toInt)) => ?_) (z_qCmp rfl rfl)
        refine z_xZ zt49 36 rfl rfl (fun (h42 : x40.toInt = 0) => ?_) (fun (h42 : x40.toInt ≠ 0) => ?_)
        · skip
          refine z_xN zt49 41 rfl rfl (fun (x43 : Int32) (h44 : x43.toInt = b7.toInt + 1) => ?_) (z_pAdd rfl rfl (by omega) (by omega))
          show z_ev (d + 2) 49 102 [some (.ref a0), some (.int p1), some (.int b2), some (.int b3), some (.int b4), some (.long b5), none, some (.int x43), some (.long y29), none] [] M _
          refine z_xP zt49 42 28 [some (.ref a0), some (.int p1), some (.int b2), some (.int b3), some (.int b4), some (.long b5), none, some (.int x43), some (.long y29), none] [] rfl rfl ?_
          obtain ⟨-, -, hm45, -, -, -, -, -, -, ⟨ya46, e11_47, k11_48, f11_49⟩⟩ := hag
          have i50 := z_ybw (z_kpL11 h17 (X.2.f k0 (by decide) e11_47) h30 (z_ixm (B := z_sp m) h25.1 (by omega) (by omega) h27 (by omega)) (X.2.lg k11_48 (by decide)))
          have i51 : x43.toInt.toNat = b7.toInt.toNat + 1 := by omega
          have i52 : x43.toInt.toNat = b7.toInt.toNat + 1 := by omega
          exact ih.2 M b2 b3 b4 b5 x43 (some (.long y29)) X ⟨by omega, by omega⟩ ⟨by omega, by omega⟩ ⟨by omega, by omega⟩ ⟨by omega, by omega⟩ (by omega) (by rw [i51]; exact z_iwA hY ((z_imY hL f11_49 i50 (by omega) (by omega) h32).mp (by omega))) (by rw [i52]; exact z_iwA hN ((z_imN hL f11_49 i50 (by omega) (by omega) h37 h39).mp (by omega))) hL (by omega)
        refine z_xP zt49 37 96 [some (.ref a0), some (.int p1), some (.int b2), some (.int b3), some (.int b4), some (.long b5), none, some (.int b7), some (.long y29), none] [.int b7, .int 1, .int b3] rfl rfl ?_
        refine z_xI zt49 38 rfl rfl (fun (x53 : Int32) (h54 : x53 = (1 : Int32) <<< (b7 &&& 31) ∧ 1 ≤ x53.toInt ∧ x53.toInt ≤ 512) => ?_) (⟨rfl, z_pShlB (a := 1) (b := 9) (c := 512) (r := 512) rfl rfl (by omega) (by omega) (by omega) (by omega) (by decide) (by decide) (by decide) (by decide)⟩)
        refine z_xI zt49 39 rfl rfl (fun (x55 : Int32) (h56 : x55 = b3 ||| x53 ∧ 0 ≤ x55.toInt ∧ x55.toInt < 1024 ∧ b3.toInt ≤ x55.toInt ∧ x53.toInt ≤ x55.toInt) => ?_) (⟨rfl, z_pOr 10 rfl rfl (by omega) (by omega) (by decide) (by omega) (by omega) (by decide)⟩)
        refine z_xP zt49 40 99 [some (.ref a0), some (.int p1), some (.int b2), some (.int x55), some (.int b4), some (.long b5), none, some (.int b7), some (.long y29), none] [] rfl rfl ?_
        refine z_xN zt49 41 rfl rfl (fun (x57 : Int32) (h58 : x57.toInt = b7.toInt + 1) => ?_) (z_pAdd rfl rfl (by omega) (by omega))
        show z_ev (d + 2) 49 102 [some (.ref a0), some (.int p1), some (.int b2), some (.int x55), some (.int b4), some (.long b5), none, some (.int x57), some (.long y29), none] [] M _
        refine z_xP zt49 42 28 [some (.ref a0), some (.int p1), some (.int b2), some (.int x55), some (.int b4), some (.long b5), none, some (.int x57), some (.long y29), none] [] rfl rfl ?_
        obtain ⟨-, -, hm59, -, -, -, -, -, -, ⟨ya60, e11_61, k11_62, f11_63⟩⟩ := hag
        have i64 := z_ybw (z_kpL11 h17 (X.2.f k0 (by decide) e11_61) h30 (z_ixm (B := z_sp m) h25.1 (by omega) (by omega) h27 (by omega)) (X.2.lg k11_62 (by decide)))
        have i65 : x57.toInt.toNat = b7.toInt.toNat + 1 := by omega
        have i66 : x57.toInt.toNat = b7.toInt.toNat + 1 := by omega
        exact ih.2 M b2 x55 b4 b5 x57 (some (.long y29)) X ⟨by omega, by omega⟩ ⟨by omega, by omega⟩ ⟨by omega, by omega⟩ ⟨by omega, by omega⟩ (by omega) (by rw [i65]; exact z_iwA hY ((z_imY hL f11_63 i64 (by omega) (by omega) h32).mp (by omega))) (by rw [i66]; exact z_iwC hN (Classical.byContradiction fun hn => absurd ((z_imN hL f11_63 i64 (by omega) (by omega) h37 h39).mpr hn) (by omega)) (by omega) g0.1.2.1 (by omega) h54.1 h56.1) hL (by omega)
      refine z_xP zt49 26 75 [some (.ref a0), some (.int p1), some (.int b2), some (.int b3), some (.int b4), some (.long b5), none, some (.int b7), some (.long y29), none] [.int b7, .int 1, .int b2] rfl rfl ?_
      refine z_xI zt49 27 rfl rfl (fun (x67 : Int32) (h68 : x67 = (1 : Int32) <<< (b7 &&& 31) ∧ 1 ≤ x67.toInt ∧ x67.toInt ≤ 512) => ?_) (⟨rfl, z_pShlB (a := 1) (b := 9) (c := 512) (r := 512) rfl rfl (by omega) (by omega) (by omega) (by omega) (by decide) (by decide) (by decide) (by decide)⟩)
      refine z_xI zt49 28 rfl rfl (fun (x69 : Int32) (h70 : x69 = b2 ||| x67 ∧ 0 ≤ x69.toInt ∧ x69.toInt < 1024 ∧ b2.toInt ≤ x69.toInt ∧ x67.toInt ≤ x69.toInt) => ?_) (⟨rfl, z_pOr 10 rfl rfl (by omega) (by omega) (by decide) (by omega) (by omega) (by decide)⟩)
      refine z_xP zt49 29 78 [some (.ref a0), some (.int p1), some (.int x69), some (.int b3), some (.int b4), some (.long b5), none, some (.int b7), some (.long y29), none] [] rfl rfl ?_
      refine z_xP zt49 30 82 [some (.ref a0), some (.int p1), some (.int x69), some (.int b3), some (.int b4), some (.long b5), none, some (.int b7), some (.long y29), none] [.long y29, .long b5] rfl rfl ?_
      refine z_xl2 zt49 31 rfl zo49 zkl2_38 ?_
      refine z_xL zt49 32 rfl rfl (fun (y71 : Int64) (h72 : y71 = y29 ^^^ (-1)) => ?_) (rfl)
      refine z_xL zt49 33 rfl rfl (fun (y73 : Int64) (h74 : y73 = b5 &&& y71) => ?_) (rfl)
      refine z_xP zt49 34 88 [some (.ref a0), some (.int p1), some (.int x69), some (.int b3), some (.int b4), some (.long b5), none, some (.int b7), some (.long y29), none] [.long 0, .long y73] rfl rfl ?_
      refine z_xI zt49 35 rfl rfl (fun (x75 : Int32) (h76 : (x75.toInt < 0 ∧ y73.toInt < 0) ∨ (x75.toInt = 0 ∧ y73.toInt = 0) ∨ (0 < x75.toInt ∧ 0 < y73.toInt)) => ?_) (z_qCmp rfl rfl)
      refine z_xZ zt49 36 rfl rfl (fun (h77 : x75.toInt = 0) => ?_) (fun (h77 : x75.toInt ≠ 0) => ?_)
      · skip
        refine z_xN zt49 41 rfl rfl (fun (x78 : Int32) (h79 : x78.toInt = b7.toInt + 1) => ?_) (z_pAdd rfl rfl (by omega) (by omega))
        show z_ev (d + 2) 49 102 [some (.ref a0), some (.int p1), some (.int x69), some (.int b3), some (.int b4), some (.long b5), none, some (.int x78), some (.long y29), none] [] M _
        refine z_xP zt49 42 28 [some (.ref a0), some (.int p1), some (.int x69), some (.int b3), some (.int b4), some (.long b5), none, some (.int x78), some (.long y29), none] [] rfl rfl ?_
        obtain ⟨-, -, hm80, -, -, -, -, -, -, ⟨ya81, e11_82, k11_83, f11_84⟩⟩ := hag
        have i85 := z_ybw (z_kpL11 h17 (X.2.f k0 (by decide) e11_82) h30 (z_ixm (B := z_sp m) h25.1 (by omega) (by omega) h27 (by omega)) (X.2.lg k11_83 (by decide)))
        have i86 : x78.toInt.toNat = b7.toInt.toNat + 1 := by omega
        have i87 : x78.toInt.toNat = b7.toInt.toNat + 1 := by omega
        exact ih.2 M x69 b3 b4 b5 x78 (some (.long y29)) X ⟨by omega, by omega⟩ ⟨by omega, by omega⟩ ⟨by omega, by omega⟩ ⟨by omega, by omega⟩ (by omega) (by rw [i86]; exact z_iwC hY (Classical.byContradiction fun hn => absurd ((z_imY hL f11_84 i85 (by omega) (by omega) h32).mpr hn) (by omega)) (by omega) g0.1.2.1 (by omega) h68.1 h70.1) (by rw [i87]; exact z_iwA hN ((z_imN hL f11_84 i85 (by omega) (by omega) h72 h74).mp (by omega))) hL (by omega)
      refine z_xP zt49 37 96 [some (.ref a0), some (.int p1), some (.int x69), some (.int b3), some (.int b4), some (.long b5), none, some (.int b7), some (.long y29), none] [.int b7, .int 1, .int b3] rfl rfl ?_
      refine z_xI zt49 38 rfl rfl (fun (x88 : Int32) (h89 : x88 = (1 : Int32) <<< (b7 &&& 31) ∧ 1 ≤ x88.toInt ∧ x88.toInt ≤ 512) => ?_) (⟨rfl, z_pShlB (a := 1) (b := 9) (c := 512) (r := 512) rfl rfl (by omega) (by omega) (by omega) (by omega) (by decide) (by decide) (by decide) (by decide)⟩)
      refine z_xI zt49 39 rfl rfl (fun (x90 : Int32) (h91 : x90 = b3 ||| x88 ∧ 0 ≤ x90.toInt ∧ x90.toInt < 1024 ∧ b3.toInt ≤ x90.toInt ∧ x88.toInt ≤ x90.toInt) => ?_) (⟨rfl, z_pOr 10 rfl rfl (by omega) (by omega) (by decide) (by omega) (by omega) (by decide)⟩)
      refine z_xP zt49 40 99 [some (.ref a0), some (.int p1), some (.int x69), some (.int x90), some (.int b4), some (.long b5), none, some (.int b7), some (.long y29), none] [] rfl rfl ?_
      refine z_xN zt49 41 rfl rfl (fun (x92 : Int32) (h93 : x92.toInt = b7.toInt + 1) => ?_) (z_pAdd rfl rfl (by omega) (by omega))
      show z_ev (d + 2) 49 102 [some (.ref a0), some (.int p1), some (.int x69), some (.int x90), some (.int b4), some (.long b5), none, some (.int x92), some (.long y29), none] [] M _
      refine z_xP zt49 42 28 [some (.ref a0), some (.int p1), some (.int x69), some (.int x90), some (.int b4), some (.long b5), none, some (.int x92), some (.long y29), none] [] rfl rfl ?_
      obtain ⟨-, -, hm94, -, -, -, -, -, -, ⟨ya95, e11_96, k11_97, f11_98⟩⟩ := hag
      have i99 := z_ybw (z_kpL11 h17 (X.2.f k0 (by decide) e11_96) h30 (z_ixm (B := z_sp m) h25.1 (by omega) (by omega) h27 (by omega)) (X.2.lg k11_97 (by decide)))
      have i100 : x92.toInt.toNat = b7.toInt.toNat + 1 := by omega
      have i101 : x92.toInt.toNat = b7.toInt.toNat + 1 := by omega
      exact ih.2 M x69 x90 b4 b5 x92 (some (.long y29)) X ⟨by omega, by omega⟩ ⟨by omega, by omega⟩ ⟨by omega, by omega⟩ ⟨by omega, by omega⟩ (by omega) (by rw [i100]; exact z_iwC hY (Classical.byContradiction fun hn => absurd ((z_imY hL f11_98 i99 (by omega) (by omega) h32).mpr hn) (by omega)) (by omega) g0.1.2.1 (by omega) h68.1 h70.1) (by rw [i101]; exact z_iwC hN (Classical.byContradiction fun hn => absurd ((z_imN hL f11_98 i99 (by omega) (by omega) h72 h74).mpr hn) (by omega)) (by omega) g0.1.2.1 (by omega) h89.1 h91.1) hL (by omega)
theorem zUC49 {T : List zK} {d : Nat} {K : Option Value → zH → Prop} {a0 : Nat} {q : Nat} {t : Nat} {m : Nat} {p1 : Int32} {uy un pr en : Nat} {B : Nat → Nat} {M0 : zH} (hW : z_W M0 T) (k0 : T[a0]? = some (.inl (2, q, t, m, 0))) (hag : z_AGO T M0 a0 q t m pr en B) (hd : p1.toInt = (uy : Int) + 1024 * (un : Int) ∧ uy < 1024 ∧ un < 1024) (hu : uy < 2 ^ q ∧ un < 2 ^ q) (kk : ∀ (x : Int32) (M1 : zH), z_X T zw49 M0 M1 → (-1) ≤ x.toInt → x.toInt ≤ 1048575 → z_imp B q uy un x.toInt → K (some (.int x)) M1) : z_ev (d + 2) 49 0 [some (.ref a0), some (.int p1), none, none, none, none, none, none, none, none] [] M0 K := by
  have X : z_X T zw49 M0 M0 := .refl hW
  have g0 := X.1.p2 k0
  refine z_xP zt49 0 7 [some (.ref a0), some (.int p1), some (.int 0), some (.int 0), some (.int 0), none, none, none, none, none] [] rfl rfl ?_
  have q0 : ((0 : Int32)).toInt = 0 := rfl
  exact (zUB49 k0 hag hd hu kk 1683).1 M0 (0) (0) (0) none none none X (by decide) (by decide) (by decide) (z_iw0 (x0 := 0) rfl rfl) (z_iw0 (x0 := 0) rfl rfl) (by omega)
theorem zUB219 {T : List zK} {d : Nat} {K : Option Value → zH → Prop} {p1 : Int32} {p2 : Int32} {p3 : Int32} {p4 : Int32} {M0 : zH} (u1 : 0 ≤ p1.toInt ∧ p1.toInt ≤ 7) (hq4 : 0 ≤ p4.toInt ∧ p4.toInt < 10) (kk : ∀ (x : Int32) (M1 : zH), z_X T zw219 M0 M1 → (-3) ≤ x.toInt → x.toInt ≤ 1 → y_fo (fun j => z_Ar M0 30 (1024 * p1.toNatClampNeg + j)) p2 p3 p4.toInt.toNat (z_Ar M0 31 p1.toNatClampNeg).toInt.toNat x.toInt → K (some (.int x)) M1) : ∀ n : Nat, (∀ (M : zH) (b5 : Int32) (b6 : Int32) (b7 : Int32) (o8 : Option Value) (z0 : Int32), z_X T zw219 M0 M → 0 ≤ b5.toInt ∧ b5.toInt ≤ 1 → 0 ≤ b6.toInt ∧ b6.toInt ≤ 1 → 0 ≤ b7.toInt ∧ b7.toInt ≤ 1024 → z_Ar M 31 p1.toNatClampNeg = z0 → 0 ≤ z0.toInt ∧ z0.toInt ≤ 1024 → b7.toInt ≤ z0.toInt → y_fb (fun j => z_Ar M0 30 (1024 * p1.toNatClampNeg + j)) p2 p3 p4.toInt.toNat 1 b7.toInt.toNat b5.toInt → y_fb (fun j => z_Ar M0 30 (1024 * p1.toNatClampNeg + j)) p2 p3 p4.toInt.toNat 0 b7.toInt.toNat b6.toInt → ((0) * 2 + 0) * 1025 + (1024 - b7.toInt) < (n : Int) → z_ev (d + 1) 219 9 [some (.ref 19), some (.int p1), some (.int p2), some (.int p3), some (.int p4), some (.int b5), some (.int b6), some (.int b7), o8] [] M K) := by
  intro n
  induction n with
  | zero => exact by intros; exfalso; omega
  | succ n ih =>
    intro M b5 b6 b7 o8 z0 X hh0 hh1 hh2 hp0 hh4 hh5 hY hN hE
    refine z_xP zt219 1 12 [some (.ref 19), some (.int p1), some (.int p2), some (.int p3), some (.int p4), some (.int b5), some (.int b6), some (.int b7), o8] [.ref 19, .int b7] rfl rfl ?_
    have f19 : T[19]? = some (.inl (12, 0, 0, 0, 0)) := X.1.k rfl (by decide)
    refine z_xgX (b := 31) zt219 2 rfl zo219 zzf12_43 X f19 (by decide) (by decide) rfl ?_
    refine z_xP zt219 3 16 [some (.ref 19), some (.int p1), some (.int p2), some (.int p3), some (.int p4), some (.int b5), some (.int b6), some (.int b7), o8] [.int p1, .ref 31, .int b7] rfl rfl ?_
    have f31 : T[31]? = some (.inr (31, 0, 8, 0, 1024)) := X.1.k rfl (by decide)
    refine z_xil zt219 4 rfl X f31 (by decide) (by omega) (by omega) (fun (x1 : Int32) h2 (h3 : 0 ≤ x1.toInt) (h4 : x1.toInt ≤ 1024) => ?_)
    have h5 := congrArg Int32.toInt (h2.symm.trans hp0)
    refine z_xJ zt219 5 rfl rfl (fun (h6 : x1.toInt ≤ b7.toInt) => ?_) (fun (h6 : b7.toInt < x1.toInt) => ?_)
    · skip
      refine z_xP zt219 38 98 [some (.ref 19), some (.int p1), some (.int p2), some (.int p3), some (.int p4), some (.int b5), some (.int b6), some (.int b7), o8] [.int b5] rfl rfl ?_
      refine z_xZ zt219 39 rfl rfl (fun (h7 : b5.toInt = 0) => ?_) (fun (h7 : b5.toInt ≠ 0) => ?_)
      · skip
        refine z_xP zt219 43 113 [some (.ref 19), some (.int p1), some (.int p2), some (.int p3), some (.int p4), some (.int b5), some (.int b6), some (.int b7), o8] [.int b5] rfl rfl ?_
        refine z_xZ zt219 44 rfl rfl (fun (h8 : b5.toInt = 0) => ?_) (fun (h8 : b5.toInt ≠ 0) => absurd h8 (by omega))
        refine z_xP zt219 46 122 [some (.ref 19), some (.int p1), some (.int p2), some (.int p3), some (.int p4), some (.int b5), some (.int b6), some (.int b7), o8] [.int b6] rfl rfl ?_
        refine z_xZ zt219 47 rfl rfl (fun (h9 : b6.toInt = 0) => ?_) (fun (h9 : b6.toInt ≠ 0) => ?_)
        · skip
          refine z_xP zt219 49 131 [some (.ref 19), some (.int p1), some (.int p2), some (.int p3), some (.int p4), some (.int b5), some (.int b6), some (.int b7), o8] [.int (-3)] rfl rfl ?_
          have qm3 : (((-3) : Int32)).toInt = (-3) := rfl
          have i10 : b7.toInt.toNat = (z_Ar M0 31 p1.toNatClampNeg).toInt.toNat := by rw [(congrFun (X.2.a f31 (by decide)) _).symm.trans hp0]; omega
          have qm3 : (((-3) : Int32)).toInt = (-3) := rfl
          exact z_xri zt219 50 rfl zzr219 (kk (-3) M X (by omega) (by omega) (by rw [i10] at hY hN; exact Or.inl ⟨by omega, (y_fbn hY (by omega)), (y_fbn hN (by omega))⟩))
        refine z_xP zt219 48 131 [some (.ref 19), some (.int p1), some (.int p2), some (.int p3), some (.int p4), some (.int b5), some (.int b6), some (.int b7), o8] [.int 0] rfl rfl ?_
        have q0 : ((0 : Int32)).toInt = 0 := rfl
        have i11 : b7.toInt.toNat = (z_Ar M0 31 p1.toNatClampNeg).toInt.toNat := by rw [(congrFun (X.2.a f31 (by decide)) _).symm.trans hp0]; omega
        have q0 : ((0 : Int32)).toInt = 0 := rfl
        exact z_xri zt219 50 rfl zzr219 (kk 0 M X (by omega) (by omega) (by rw [i11] at hY hN; exact Or.inr (Or.inr (Or.inl ⟨by omega, (y_fbn hY (by omega)), (y_fb1 hN (by omega))⟩))))
      refine z_xP zt219 40 103 [some (.ref 19), some (.int p1), some (.int p2), some (.int p3), some (.int p4), some (.int b5), some (.int b6), some (.int b7), o8] [.int b6] rfl rfl ?_
      refine z_xZ zt219 41 rfl rfl (fun (h12 : b6.toInt = 0) => ?_) (fun (h12 : b6.toInt ≠ 0) => ?_)
      · skip
        refine z_xP zt219 43 113 [some (.ref 19), some (.int p1), some (.int p2), some (.int p3), some (.int p4), some (.int b5), some (.int b6), some (.int b7), o8] [.int b5] rfl rfl ?_
        refine z_xZ zt219 44 rfl rfl (fun (h13 : b5.toInt = 0) => absurd h13 (by omega)) (fun (h13 : b5.toInt ≠ 0) => ?_)
        refine z_xP zt219 45 131 [some (.ref 19), some (.int p1), some (.int p2), some (.int p3), some (.int p4), some (.int b5), some (.int b6), some (.int b7), o8] [.int 1] rfl rfl ?_
        have q1 : ((1 : Int32)).toInt = 1 := rfl
        have i14 : b7.toInt.toNat = (z_Ar M0 31 p1.toNatClampNeg).toInt.toNat := by rw [(congrFun (X.2.a f31 (by decide)) _).symm.trans hp0]; omega
        have q1 : ((1 : Int32)).toInt = 1 := rfl
        exact z_xri zt219 50 rfl zzr219 (kk 1 M X (by omega) (by omega) (by rw [i14] at hY hN; exact Or.inr (Or.inl ⟨by omega, (y_fb1 hY (by omega)), (y_fbn hN (by omega))⟩)))
      refine z_xP zt219 42 131 [some (.ref 19), some (.int p1), some (.int p2), some (.int p3), some (.int p4), some (.int b5), some (.int b6), some (.int b7), o8] [.int (-2)] rfl rfl ?_
      have qm2 : (((-2) : Int32)).toInt = (-2) := rfl
      have i15 : b7.toInt.toNat = (z_Ar M0 31 p1.toNatClampNeg).toInt.toNat := by rw [(congrFun (X.2.a f31 (by decide)) _).symm.trans hp0]; omega
      have qm2 : (((-2) : Int32)).toInt = (-2) := rfl
      exact z_xri zt219 50 rfl zzr219 (kk (-2) M X (by omega) (by omega) (by rw [i15] at hY hN; exact Or.inr (Or.inr (Or.inr ⟨by omega, (y_fb1 hY (by omega)), (y_fb1 hN (by omega))⟩))))
    refine z_xP zt219 6 21 [some (.ref 19), some (.int p1), some (.int p2), some (.int p3), some (.int p4), some (.int b5), some (.int b6), some (.int b7), o8] [.ref 19] rfl rfl ?_
    refine z_xgX (b := 30) zt219 7 rfl zo219 zzf12_40 X f19 (by decide) (by decide) rfl ?_
    refine z_xP zt219 8 28 [some (.ref 19), some (.int p1), some (.int p2), some (.int p3), some (.int p4), some (.int b5), some (.int b6), some (.int b7), o8] [.int p1, .int 1024, .ref 30] rfl rfl ?_
    refine z_xI zt219 9 rfl rfl (fun (x16 : Int32) (h17 : x16.toInt = 1024 * p1.toInt) => ?_) (z_pMul rfl rfl (by omega) (by omega))
    refine z_xP zt219 10 31 [some (.ref 19), some (.int p1), some (.int p2), some (.int p3), some (.int p4), some (.int b5), some (.int b6), some (.int b7), o8] [.int b7, .int x16, .ref 30] rfl rfl ?_
    refine z_xI zt219 11 rfl rfl (fun (x18 : Int32) (h19 : x18.toInt = x16.toInt + b7.toInt) => ?_) (z_pAdd rfl rfl (by omega) (by omega))
    have f30 : T[30]? = some (.inr (30, 0, 8192, 0, 1023)) := X.1.k rfl (by decide)
    refine z_xil zt219 12 rfl X f30 (by decide) (by omega) (by omega) (fun (x20 : Int32) h21 (h22 : 0 ≤ x20.toInt) (h23 : x20.toInt ≤ 1023) => ?_)
    refine z_xP zt219 13 39 [some (.ref 19), some (.int p1), some (.int p2), some (.int p3), some (.int p4), some (.int b5), some (.int b6), some (.int b7), some (.int x20)] [.int p3, .int p2, .int x20] rfl rfl ?_
    refine z_xcS (vs := [.int x20, .int p2, .int p3]) (r := []) (L2 := [some (.int x20), some (.int p2), some (.int p3)]) zt219 14 rfl zo219 zzcS12_216 (Or.inl rfl) (Nat.le_of_ble_eq_true rfl) rfl rfl (Nat.le_of_ble_eq_true rfl) zzm216 (Nat.le_of_ble_eq_true rfl) rfl ?_
    refine z_xP zt216 0 2 [some (.int x20), some (.int p2), some (.int p3)] [.int p2, .int x20] rfl rfl ?_
    refine z_xI zt216 1 rfl rfl (fun (x24 : Int32) (h25 : x24 = x20 &&& p2) => ?_) (rfl)
    refine z_xP zt216 2 4 [some (.int x20), some (.int p2), some (.int p3)] [.int p2, .int x24] rfl rfl ?_
    have h26 := z_b32 x24
    have h27 := z_b32 p2
    refine z_xJ zt216 3 rfl rfl (fun (h28 : x24.toInt ≠ p2.toInt) => ?_) (fun (h28 : x24.toInt = p2.toInt) => ?_)
    · skip
      refine z_xP zt216 8 18 [some (.int x20), some (.int p2), some (.int p3)] [.int 0] rfl rfl ?_
      refine z_xrz zt216 9 rfl zzr216 (by decide) (by decide) ?_
      show z_ev (d + 1) 219 42 [some (.ref 19), some (.int p1), some (.int p2), some (.int p3), some (.int p4), some (.int b5), some (.int b6), some (.int b7), some (.int x20)] [.int 0] M _
      refine z_xZ zt219 15 rfl rfl (fun (h29 : (0 : Int) = 0) => ?_) (fun (h29 : (0 : Int) ≠ 0) => absurd h29 (by omega))
      refine z_xN zt219 36 rfl rfl (fun (x30 : Int32) (h31 : x30.toInt = b7.toInt + 1) => ?_) (z_pAdd rfl rfl (by omega) (by omega))
      show z_ev (d + 1) 219 93 [some (.ref 19), some (.int p1), some (.int p2), some (.int p3), some (.int p4), some (.int b5), some (.int b6), some (.int x30), some (.int x20)] [] M _
      refine z_xP zt219 37 9 [some (.ref 19), some (.int p1), some (.int p2), some (.int p3), some (.int p4), some (.int b5), some (.int b6), some (.int x30), some (.int x20)] [] rfl rfl ?_
      have i32 : x30.toInt.toNat = b7.toInt.toNat + 1 := by omega
      have i33 : x30.toInt.toNat = b7.toInt.toNat + 1 := by omega
      exact ih M b5 b6 x30 (some (.int x20)) z0 X ⟨by omega, by omega⟩ ⟨by omega, by omega⟩ ⟨by omega, by omega⟩ hp0 ⟨by omega, by omega⟩ (by omega) (by rw [i32]; exact y_fbN hY rfl (S := (fun j => z_Ar M0 30 (1024 * p1.toNatClampNeg + j))) (s := x20) (by show z_Ar M0 30 (1024 * p1.toNatClampNeg + b7.toInt.toNat) = _; rw [show 1024 * p1.toNatClampNeg + b7.toInt.toNat = x18.toNatClampNeg from by unfold Int32.toNatClampNeg; omega]; exact (congrFun (X.2.a f30 (by decide)) _).symm.trans h21) (fun hh => absurd hh.1.1 (by rw [← h25]; omega))) (by rw [i33]; exact y_fbN hN rfl (S := (fun j => z_Ar M0 30 (1024 * p1.toNatClampNeg + j))) (s := x20) (by show z_Ar M0 30 (1024 * p1.toNatClampNeg + b7.toInt.toNat) = _; rw [show 1024 * p1.toNatClampNeg + b7.toInt.toNat = x18.toNatClampNeg from by unfold Int32.toNatClampNeg; omega]; exact (congrFun (X.2.a f30 (by decide)) _).symm.trans h21) (fun hh => absurd hh.1.1 (by rw [← h25]; omega))) (by omega)
    refine z_xP zt216 4 9 [some (.int x20), some (.int p2), some (.int p3)] [.int p3, .int x20] rfl rfl ?_
    refine z_xI zt216 5 rfl rfl (fun (x34 : Int32) (h35 : x34 = x20 &&& p3) => ?_) (rfl)
    refine z_xZ zt216 6 rfl rfl (fun (h36 : x34.toInt ≠ 0) => ?_) (fun (h36 : x34.toInt = 0) => ?_)
    · skip
      refine z_xP zt216 8 18 [some (.int x20), some (.int p2), some (.int p3)] [.int 0] rfl rfl ?_
      refine z_xrz zt216 9 rfl zzr216 (by decide) (by decide) ?_
      show z_ev (d + 1) 219 42 [some (.ref 19), some (.int p1), some (.int p2), some (.int p3), some (.int p4), some (.int b5), some (.int b6), some (.int b7), some (.int x20)] [.int 0] M _
      refine z_xZ zt219 15 rfl rfl (fun (h37 : (0 : Int) = 0) => ?_) (fun (h37 : (0 : Int) ≠ 0) => absurd h37 (by omega))
      refine z_xN zt219 36 rfl rfl (fun (x38 : Int32) (h39 : x38.toInt = b7.toInt + 1) => ?_) (z_pAdd rfl rfl (by omega) (by omega))
      show z_ev (d + 1) 219 93 [some (.ref 19), some (.int p1), some (.int p2), some (.int p3), some (.int p4), some (.int b5), some (.int b6), some (.int x38), some (.int x20)] [] M _
      refine z_xP zt219 37 9 [some (.ref 19), some (.int p1), some (.int p2), some (.int p3), some (.int p4), some (.int b5), some (.int b6), some (.int x38), some (.int x20)] [] rfl rfl ?_
      have i40 : x38.toInt.toNat = b7.toInt.toNat + 1 := by omega
      have i41 : x38.toInt.toNat = b7.toInt.toNat + 1 := by omega
      exact ih M b5 b6 x38 (some (.int x20)) z0 X ⟨by omega, by omega⟩ ⟨by omega, by omega⟩ ⟨by omega, by omega⟩ hp0 ⟨by omega, by omega⟩ (by omega) (by rw [i40]; exact y_fbN hY rfl (S := (fun j => z_Ar M0 30 (1024 * p1.toNatClampNeg + j))) (s := x20) (by show z_Ar M0 30 (1024 * p1.toNatClampNeg + b7.toInt.toNat) = _; rw [show 1024 * p1.toNatClampNeg + b7.toInt.toNat = x18.toNatClampNeg from by unfold Int32.toNatClampNeg; omega]; exact (congrFun (X.2.a f30 (by decide)) _).symm.trans h21) (fun hh => absurd hh.1.2 (by rw [← h35]; omega))) (by rw [i41]; exact y_fbN hN rfl (S := (fun j => z_Ar M0 30 (1024 * p1.toNatClampNeg + j))) (s := x20) (by show z_Ar M0 30 (1024 * p1.toNatClampNeg + b7.toInt.toNat) = _; rw [show 1024 * p1.toNatClampNeg + b7.toInt.toNat = x18.toNatClampNeg from by unfold Int32.toNatClampNeg; omega]; exact (congrFun (X.2.a f30 (by decide)) _).symm.trans h21) (fun hh => absurd hh.1.2 (by rw [← h35]; omega))) (by omega)
    refine z_xP zt216 7 18 [some (.int x20), some (.int p2), some (.int p3)] [.int 1] rfl rfl ?_
    refine z_xrz zt216 9 rfl zzr216 (by decide) (by decide) ?_
    show z_ev (d + 1) 219 42 [some (.ref 19), some (.int p1), some (.int p2), some (.int p3), some (.int p4), some (.int b5), some (.int b6), some (.int b7), some (.int x20)] [.int 1] M _
    refine z_xZ zt219 15 rfl rfl (fun (h42 : (1 : Int) = 0) => absurd h42 (by omega)) (fun (h42 : (1 : Int) ≠ 0) => ?_)
    refine z_xP zt219 16 47 [some (.ref 19), some (.int p1), some (.int p2), some (.int p3), some (.int p4), some (.int b5), some (.int b6), some (.int b7), some (.int x20)] [.int b5] rfl rfl ?_
    refine z_xZ zt219 17 rfl rfl (fun (h43 : b5.toInt ≠ 0) => ?_) (fun (h43 : b5.toInt = 0) => ?_)
    · skip
      refine z_xP zt219 24 66 [some (.ref 19), some (.int p1), some (.int p2), some (.int p3), some (.int p4), some (.int b5), some (.int b6), some (.int b7), some (.int x20)] [.int 1] rfl rfl ?_
      refine z_xP zt219 26 70 [some (.ref 19), some (.int p1), some (.int p2), some (.int p3), some (.int p4), some (.int 1), some (.int b6), some (.int b7), some (.int x20)] [.int b6] rfl rfl ?_
      refine z_xZ zt219 27 rfl rfl (fun (h44 : b6.toInt ≠ 0) => ?_) (fun (h44 : b6.toInt = 0) => ?_)
      · skip
        refine z_xP zt219 33 88 [some (.ref 19), some (.int p1), some (.int p2), some (.int p3), some (.int p4), some (.int 1), some (.int b6), some (.int b7), some (.int x20)] [.int 1] rfl rfl ?_
        refine z_xP zt219 35 90 [some (.ref 19), some (.int p1), some (.int p2), some (.int p3), some (.int p4), some (.int 1), some (.int 1), some (.int b7), some (.int x20)] [] rfl rfl ?_
        refine z_xN zt219 36 rfl rfl (fun (x45 : Int32) (h46 : x45.toInt = b7.toInt + 1) => ?_) (z_pAdd rfl rfl (by omega) (by omega))
        show z_ev (d + 1) 219 93 [some (.ref 19), some (.int p1), some (.int p2), some (.int p3), some (.int p4), some (.int 1), some (.int 1), some (.int x45), some (.int x20)] [] M _
        refine z_xP zt219 37 9 [some (.ref 19), some (.int p1), some (.int p2), some (.int p3), some (.int p4), some (.int 1), some (.int 1), some (.int x45), some (.int x20)] [] rfl rfl ?_
        have i47 : x45.toInt.toNat = b7.toInt.toNat + 1 := by omega
        have q1 : ((1 : Int32)).toInt = 1 := rfl
        have i48 : x45.toInt.toNat = b7.toInt.toNat + 1 := by omega
        have q1 : ((1 : Int32)).toInt = 1 := rfl
        have q1 : ((1 : Int32)).toInt = 1 := rfl
        exact ih M (1) (1) x45 (some (.int x20)) z0 X (by decide) (by decide) ⟨by omega, by omega⟩ hp0 ⟨by omega, by omega⟩ (by omega) (by rw [i47]; exact y_fbK hY (by omega) (by omega)) (by rw [i48]; exact y_fbK hN (by omega) (by omega)) (by omega)
      refine z_xP zt219 28 77 [some (.ref 19), some (.int p1), some (.int p2), some (.int p3), some (.int p4), some (.int 1), some (.int b6), some (.int b7), some (.int x20)] [.int p4, .int x20] rfl rfl ?_
      have h49 := z_b32 p4
      refine z_xI zt219 29 rfl rfl (fun (x50 : Int32) (h51 : x50 = x20 >>> (p4 &&& 31)) => ?_) (rfl)
      refine z_xP zt219 30 79 [some (.ref 19), some (.int p1), some (.int p2), some (.int p3), some (.int p4), some (.int 1), some (.int b6), some (.int b7), some (.int x20)] [.int 1, .int x50] rfl rfl ?_
      refine z_xI zt219 31 rfl rfl (fun (x52 : Int32) (h53 : x52 = x50 &&& (1 : Int32)) => ?_) (rfl)
      refine z_xZ zt219 32 rfl rfl (fun (h54 : x52.toInt ≠ 0) => ?_) (fun (h54 : x52.toInt = 0) => ?_)
      · skip
        refine z_xP zt219 34 88 [some (.ref 19), some (.int p1), some (.int p2), some (.int p3), some (.int p4), some (.int 1), some (.int b6), some (.int b7), some (.int x20)] [.int 0] rfl rfl ?_
        refine z_xP zt219 35 90 [some (.ref 19), some (.int p1), some (.int p2), some (.int p3), some (.int p4), some (.int 1), some (.int 0), some (.int b7), some (.int x20)] [] rfl rfl ?_
        refine z_xN zt219 36 rfl rfl (fun (x55 : Int32) (h56 : x55.toInt = b7.toInt + 1) => ?_) (z_pAdd rfl rfl (by omega) (by omega))
        show z_ev (d + 1) 219 93 [some (.ref 19), some (.int p1), some (.int p2), some (.int p3), some (.int p4), some (.int 1), some (.int 0), some (.int x55), some (.int x20)] [] M _
        refine z_xP zt219 37 9 [some (.ref 19), some (.int p1), some (.int p2), some (.int p3), some (.int p4), some (.int 1), some (.int 0), some (.int x55), some (.int x20)] [] rfl rfl ?_
        have i57 : x55.toInt.toNat = b7.toInt.toNat + 1 := by omega
        have q1 : ((1 : Int32)).toInt = 1 := rfl
        have i58 : x55.toInt.toNat = b7.toInt.toNat + 1 := by omega
        have q0 : ((0 : Int32)).toInt = 0 := rfl
        have i59 := (z_sbit h51 h53 (by omega) ⟨by omega, by omega⟩)
        have q0 : ((0 : Int32)).toInt = 0 := rfl
        have q1 : ((1 : Int32)).toInt = 1 := rfl
        exact ih M (1) (0) x55 (some (.int x20)) z0 X (by decide) (by decide) ⟨by omega, by omega⟩ hp0 ⟨by omega, by omega⟩ (by omega) (by rw [i57]; exact y_fbK hY (by omega) (by omega)) (by rw [i58]; exact y_fbN hN (by omega) (S := (fun j => z_Ar M0 30 (1024 * p1.toNatClampNeg + j))) (s := x20) (by show z_Ar M0 30 (1024 * p1.toNatClampNeg + b7.toInt.toNat) = _; rw [show 1024 * p1.toNatClampNeg + b7.toInt.toNat = x18.toNatClampNeg from by unfold Int32.toNatClampNeg; omega]; exact (congrFun (X.2.a f30 (by decide)) _).symm.trans h21) (fun hh => absurd hh.2 (by omega))) (by omega)
      refine z_xP zt219 33 88 [some (.ref 19), some (.int p1), some (.int p2), some (.int p3), some (.int p4), some (.int 1), some (.int b6), some (.int b7), some (.int x20)] [.int 1] rfl rfl ?_
      refine z_xP zt219 35 90 [some (.ref 19), some (.int p1), some (.int p2), some (.int p3), some (.int p4), some (.int 1), some (.int 1), some (.int b7), some (.int x20)] [] rfl rfl ?_
      refine z_xN zt219 36 rfl rfl (fun (x60 : Int32) (h61 : x60.toInt = b7.toInt + 1) => ?_) (z_pAdd rfl rfl (by omega) (by omega))
      show z_ev (d + 1) 219 93 [some (.ref 19), some (.int p1), some (.int p2), some (.int p3), some (.int p4), some (.int 1), some (.int 1), some (.int x60), some (.int x20)] [] M _
      refine z_xP zt219 37 9 [some (.ref 19), some (.int p1), some (.int p2), some (.int p3), some (.int p4), some (.int 1), some (.int 1), some (.int x60), some (.int x20)] [] rfl rfl ?_
      have i62 : x60.toInt.toNat = b7.toInt.toNat + 1 := by omega
      have q1 : ((1 : Int32)).toInt = 1 := rfl
      have i63 : x60.toInt.toNat = b7.toInt.toNat + 1 := by omega
      have q1 : ((1 : Int32)).toInt = 1 := rfl
      have i64 := (z_sbit h51 h53 (by omega) ⟨by omega, by omega⟩)
      have q1 : ((1 : Int32)).toInt = 1 := rfl
      exact ih M (1) (1) x60 (some (.int x20)) z0 X (by decide) (by decide) ⟨by omega, by omega⟩ hp0 ⟨by omega, by omega⟩ (by omega) (by rw [i62]; exact y_fbK hY (by omega) (by omega)) (by rw [i63]; exact y_fbY hN (by omega) (S := (fun j => z_Ar M0 30 (1024 * p1.toNatClampNeg + j))) (s := x20) (by show z_Ar M0 30 (1024 * p1.toNatClampNeg + b7.toInt.toNat) = _; rw [show 1024 * p1.toNatClampNeg + b7.toInt.toNat = x18.toNatClampNeg from by unfold Int32.toNatClampNeg; omega]; exact (congrFun (X.2.a f30 (by decide)) _).symm.trans h21) ⟨by rw [← h25]; omega, by rw [← h35]; omega⟩ (by omega)) (by omega)
    refine z_xP zt219 18 54 [some (.ref 19), some (.int p1), some (.int p2), some (.int p3), some (.int p4), some (.int b5), some (.int b6), some (.int b7), some (.int x20)] [.int p4, .int x20] rfl rfl ?_
    have h65 := z_b32 p4
    refine z_xI zt219 19 rfl rfl (fun (x66 : Int32) (h67 : x66 = x20 >>> (p4 &&& 31)) => ?_) (rfl)
    refine z_xP zt219 20 56 [some (.ref 19), some (.int p1), some (.int p2), some (.int p3), some (.int p4), some (.int b5), some (.int b6), some (.int b7), some (.int x20)] [.int 1, .int x66] rfl rfl ?_
    refine z_xI zt219 21 rfl rfl (fun (x68 : Int32) (h69 : x68 = x66 &&& (1 : Int32)) => ?_) (rfl)
    refine z_xP zt219 22 58 [some (.ref 19), some (.int p1), some (.int p2), some (.int p3), some (.int p4), some (.int b5), some (.int b6), some (.int b7), some (.int x20)] [.int 1, .int x68] rfl rfl ?_
    refine z_xJ zt219 23 rfl rfl (fun (h70 : x68.toInt ≠ 1) => ?_) (fun (h70 : x68.toInt = 1) => ?_)
    · skip
      refine z_xP zt219 25 66 [some (.ref 19), some (.int p1), some (.int p2), some (.int p3), some (.int p4), some (.int b5), some (.int b6), some (.int b7), some (.int x20)] [.int 0] rfl rfl ?_
      refine z_xP zt219 26 70 [some (.ref 19), some (.int p1), some (.int p2), some (.int p3), some (.int p4), some (.int 0), some (.int b6), some (.int b7), some (.int x20)] [.int b6] rfl rfl ?_
      refine z_xZ zt219 27 rfl rfl (fun (h71 : b6.toInt ≠ 0) => ?_) (fun (h71 : b6.toInt = 0) => ?_)
      · skip
        refine z_xP zt219 33 88 [some (.ref 19), some (.int p1), some (.int p2), some (.int p3), some (.int p4), some (.int 0), some (.int b6), some (.int b7), some (.int x20)] [.int 1] rfl rfl ?_
        refine z_xP zt219 35 90 [some (.ref 19), some (.int p1), some (.int p2), some (.int p3), some (.int p4), some (.int 0), some (.int 1), some (.int b7), some (.int x20)] [] rfl rfl ?_
        refine z_xN zt219 36 rfl rfl (fun (x72 : Int32) (h73 : x72.toInt = b7.toInt + 1) => ?_) (z_pAdd rfl rfl (by omega) (by omega))
        show z_ev (d + 1) 219 93 [some (.ref 19), some (.int p1), some (.int p2), some (.int p3), some (.int p4), some (.int 0), some (.int 1), some (.int x72), some (.int x20)] [] M _
        refine z_xP zt219 37 9 [some (.ref 19), some (.int p1), some (.int p2), some (.int p3), some (.int p4), some (.int 0), some (.int 1), some (.int x72), some (.int x20)] [] rfl rfl ?_
        have i74 : x72.toInt.toNat = b7.toInt.toNat + 1 := by omega
        have q0 : ((0 : Int32)).toInt = 0 := rfl
        have i75 := (z_sbit h67 h69 (by omega) ⟨by omega, by omega⟩)
        have i76 : x72.toInt.toNat = b7.toInt.toNat + 1 := by omega
        have q1 : ((1 : Int32)).toInt = 1 := rfl
        have q0 : ((0 : Int32)).toInt = 0 := rfl
        have q1 : ((1 : Int32)).toInt = 1 := rfl
        exact ih M (0) (1) x72 (some (.int x20)) z0 X (by decide) (by decide) ⟨by omega, by omega⟩ hp0 ⟨by omega, by omega⟩ (by omega) (by rw [i74]; exact y_fbN hY (by omega) (S := (fun j => z_Ar M0 30 (1024 * p1.toNatClampNeg + j))) (s := x20) (by show z_Ar M0 30 (1024 * p1.toNatClampNeg + b7.toInt.toNat) = _; rw [show 1024 * p1.toNatClampNeg + b7.toInt.toNat = x18.toNatClampNeg from by unfold Int32.toNatClampNeg; omega]; exact (congrFun (X.2.a f30 (by decide)) _).symm.trans h21) (fun hh => absurd hh.2 (by omega))) (by rw [i76]; exact y_fbK hN (by omega) (by omega)) (by omega)
      refine z_xP zt219 28 77 [some (.ref 19), some (.int p1), some (.int p2), some (.int p3), some (.int p4), some (.int 0), some (.int b6), some (.int b7), some (.int x20)] [.int p4, .int x20] rfl rfl ?_
      refine z_xI zt219 29 rfl rfl (fun (x77 : Int32) (h78 : x77 = x20 >>> (p4 &&& 31)) => ?_) (rfl)
      refine z_xP zt219 30 79 [some (.ref 19), some (.int p1), some (.int p2), some (.int p3), some (.int p4), some (.int 0), some (.int b6), some (.int b7), some (.int x20)] [.int 1, .int x77] rfl rfl ?_
      refine z_xI zt219 31 rfl rfl (fun (x79 : Int32) (h80 : x79 = x77 &&& (1 : Int32)) => ?_) (rfl)
      refine z_xZ zt219 32 rfl rfl (fun (h81 : x79.toInt ≠ 0) => ?_) (fun (h81 : x79.toInt = 0) => ?_)
      · skip
        refine z_xP zt219 34 88 [some (.ref 19), some (.int p1), some (.int p2), some (.int p3), some (.int p4), some (.int 0), some (.int b6), some (.int b7), some (.int x20)] [.int 0] rfl rfl ?_
        refine z_xP zt219 35 90 [some (.ref 19), some (.int p1), some (.int p2), some (.int p3), some (.int p4), some (.int 0), some (.int 0), some (.int b7), some (.int x20)] [] rfl rfl ?_
        refine z_xN zt219 36 rfl rfl (fun (x82 : Int32) (h83 : x82.toInt = b7.toInt + 1) => ?_) (z_pAdd rfl rfl (by omega) (by omega))
        show z_ev (d + 1) 219 93 [some (.ref 19), some (.int p1), some (.int p2), some (.int p3), some (.int p4), some (.int 0), some (.int 0), some (.int x82), some (.int x20)] [] M _
        refine z_xP zt219 37 9 [some (.ref 19), some (.int p1), some (.int p2), some (.int p3), some (.int p4), some (.int 0), some (.int 0), some (.int x82), some (.int x20)] [] rfl rfl ?_
        have i84 : x82.toInt.toNat = b7.toInt.toNat + 1 := by omega
        have q0 : ((0 : Int32)).toInt = 0 := rfl
        have i85 := (z_sbit h67 h69 (by omega) ⟨by omega, by omega⟩)
        have i86 : x82.toInt.toNat = b7.toInt.toNat + 1 := by omega
        have q0 : ((0 : Int32)).toInt = 0 := rfl
        have i87 := (z_sbit h78 h80 (by omega) ⟨by omega, by omega⟩)
        have q0 : ((0 : Int32)).toInt = 0 := rfl
        exact ih M (0) (0) x82 (some (.int x20)) z0 X (by decide) (by decide) ⟨by omega, by omega⟩ hp0 ⟨by omega, by omega⟩ (by omega) (by rw [i84]; exact y_fbN hY (by omega) (S := (fun j => z_Ar M0 30 (1024 * p1.toNatClampNeg + j))) (s := x20) (by show z_Ar M0 30 (1024 * p1.toNatClampNeg + b7.toInt.toNat) = _; rw [show 1024 * p1.toNatClampNeg + b7.toInt.toNat = x18.toNatClampNeg from by unfold Int32.toNatClampNeg; omega]; exact (congrFun (X.2.a f30 (by decide)) _).symm.trans h21) (fun hh => absurd hh.2 (by omega))) (by rw [i86]; exact y_fbN hN (by omega) (S := (fun j => z_Ar M0 30 (1024 * p1.toNatClampNeg + j))) (s := x20) (by show z_Ar M0 30 (1024 * p1.toNatClampNeg + b7.toInt.toNat) = _; rw [show 1024 * p1.toNatClampNeg + b7.toInt.toNat = x18.toNatClampNeg from by unfold Int32.toNatClampNeg; omega]; exact (congrFun (X.2.a f30 (by decide)) _).symm.trans h21) (fun hh => absurd hh.2 (by omega))) (by omega)
      refine z_xP zt219 33 88 [some (.ref 19), some (.int p1), some (.int p2), some (.int p3), some (.int p4), some (.int 0), some (.int b6), some (.int b7), some (.int x20)] [.int 1] rfl rfl ?_
      refine z_xP zt219 35 90 [some (.ref 19), some (.int p1), some (.int p2), some (.int p3), some (.int p4), some (.int 0), some (.int 1), some (.int b7), some (.int x20)] [] rfl rfl ?_
      refine z_xN zt219 36 rfl rfl (fun (x88 : Int32) (h89 : x88.toInt = b7.toInt + 1) => ?_) (z_pAdd rfl rfl (by omega) (by omega))
      show z_ev (d + 1) 219 93 [some (.ref 19), some (.int p1), some (.int p2), some (.int p3), some (.int p4), some (.int 0), some (.int 1), some (.int x88), some (.int x20)] [] M _
      refine z_xP zt219 37 9 [some (.ref 19), some (.int p1), some (.int p2), some (.int p3), some (.int p4), some (.int 0), some (.int 1), some (.int x88), some (.int x20)] [] rfl rfl ?_
      have i90 : x88.toInt.toNat = b7.toInt.toNat + 1 := by omega
      have q0 : ((0 : Int32)).toInt = 0 := rfl
      have i91 := (z_sbit h67 h69 (by omega) ⟨by omega, by omega⟩)
      have i92 : x88.toInt.toNat = b7.toInt.toNat + 1 := by omega
      have q1 : ((1 : Int32)).toInt = 1 := rfl
      have i93 := (z_sbit h78 h80 (by omega) ⟨by omega, by omega⟩)
      have q0 : ((0 : Int32)).toInt = 0 := rfl
      have q1 : ((1 : Int32)).toInt = 1 := rfl
      exact ih M (0) (1) x88 (some (.int x20)) z0 X (by decide) (by decide) ⟨by omega, by omega⟩ hp0 ⟨by omega, by omega⟩ (by omega) (by rw [i90]; exact y_fbN hY (by omega) (S := (fun j => z_Ar M0 30 (1024 * p1.toNatClampNeg + j))) (s := x20) (by show z_Ar M0 30 (1024 * p1.toNatClampNeg + b7.toInt.toNat) = _; rw [show 1024 * p1.toNatClampNeg + b7.toInt.toNat = x18.toNatClampNeg from by unfold Int32.toNatClampNeg; omega]; exact (congrFun (X.2.a f30 (by decide)) _).symm.trans h21) (fun hh => absurd hh.2 (by omega))) (by rw [i92]; exact y_fbY hN (by omega) (S := (fun j => z_Ar M0 30 (1024 * p1.toNatClampNeg + j))) (s := x20) (by show z_Ar M0 30 (1024 * p1.toNatClampNeg + b7.toInt.toNat) = _; rw [show 1024 * p1.toNatClampNeg + b7.toInt.toNat = x18.toNatClampNeg from by unfold Int32.toNatClampNeg; omega]; exact (congrFun (X.2.a f30 (by decide)) _).symm.trans h21) ⟨by rw [← h25]; omega, by rw [← h35]; omega⟩ (by omega)) (by omega)
    refine z_xP zt219 24 66 [some (.ref 19), some (.int p1), some (.int p2), some (.int p3), some (.int p4), some (.int b5), some (.int b6), some (.int b7), some (.int x20)] [.int 1] rfl rfl ?_
    refine z_xP zt219 26 70 [some (.ref 19), some (.int p1), some (.int p2), some (.int p3), some (.int p4), some (.int 1), some (.int b6), some (.int b7), some (.int x20)] [.int b6] rfl rfl ?_
    refine z_xZ zt219 27 rfl rfl (fun (h94 : b6.toInt ≠ 0) => ?_) (fun (h94 : b6.toInt = 0) => ?_)
    · skip
      refine z_xP zt219 33 88 [some (.ref 19), some (.int p1), some (.int p2), some (.int p3), some (.int p4), some (.int 1), some (.int b6), some (.int b7), some (.int x20)] [.int 1] rfl rfl ?_
      refine z_xP zt219 35 90 [some (.ref 19), some (.int p1), some (.int p2), some (.int p3), some (.int p4), some (.int 1), some (.int 1), some (.int b7), some (.int x20)] [] rfl rfl ?_
      refine z_xN zt219 36 rfl rfl (fun (x95 : Int32) (h96 : x95.toInt = b7.toInt + 1) => ?_) (z_pAdd rfl rfl (by omega) (by omega))
      show z_ev (d + 1) 219 93 [some (.ref 19), some (.int p1), some (.int p2), some (.int p3), some (.int p4), some (.int 1), some (.int 1), some (.int x95), some (.int x20)] [] M _
      refine z_xP zt219 37 9 [some (.ref 19), some (.int p1), some (.int p2), some (.int p3), some (.int p4), some (.int 1), some (.int 1), some (.int x95), some (.int x20)] [] rfl rfl ?_
      have i97 : x95.toInt.toNat = b7.toInt.toNat + 1 := by omega
      have q1 : ((1 : Int32)).toInt = 1 := rfl
      have i98 := (z_sbit h67 h69 (by omega) ⟨by omega, by omega⟩)
      have i99 : x95.toInt.toNat = b7.toInt.toNat + 1 := by omega
      have q1 : ((1 : Int32)).toInt = 1 := rfl
      have q1 : ((1 : Int32)).toInt = 1 := rfl
      exact ih M (1) (1) x95 (some (.int x20)) z0 X (by decide) (by decide) ⟨by omega, by omega⟩ hp0 ⟨by omega, by omega⟩ (by omega) (by rw [i97]; exact y_fbY hY (by omega) (S := (fun j => z_Ar M0 30 (1024 * p1.toNatClampNeg + j))) (s := x20) (by show z_Ar M0 30 (1024 * p1.toNatClampNeg + b7.toInt.toNat) = _; rw [show 1024 * p1.toNatClampNeg + b7.toInt.toNat = x18.toNatClampNeg from by unfold Int32.toNatClampNeg; omega]; exact (congrFun (X.2.a f30 (by decide)) _).symm.trans h21) ⟨by rw [← h25]; omega, by rw [← h35]; omega⟩ (by omega)) (by rw [i99]; exact y_fbK hN (by omega) (by omega)) (by omega)
    refine z_xP zt219 28 77 [some (.ref 19), some (.int p1), some (.int p2), some (.int p3), some (.int p4), some (.int 1), some (.int b6), some (.int b7), some (.int x20)] [.int p4, .int x20] rfl rfl ?_
    refine z_xI zt219 29 rfl rfl (fun (x100 : Int32) (h101 : x100 = x20 >>> (p4 &&& 31)) => ?_) (rfl)
    refine z_xP zt219 30 79 [some (.ref 19), some (.int p1), some (.int p2), some (.int p3), some (.int p4), some (.int 1), some (.int b6), some (.int b7), some (.int x20)] [.int 1, .int x100] rfl rfl ?_
    refine z_xI zt219 31 rfl rfl (fun (x102 : Int32) (h103 : x102 = x100 &&& (1 : Int32)) => ?_) (rfl)
    refine z_xZ zt219 32 rfl rfl (fun (h104 : x102.toInt ≠ 0) => ?_) (fun (h104 : x102.toInt = 0) => ?_)
    · skip
      refine z_xP zt219 34 88 [some (.ref 19), some (.int p1), some (.int p2), some (.int p3), some (.int p4), some (.int 1), some (.int b6), some (.int b7), some (.int x20)] [.int 0] rfl rfl ?_
      refine z_xP zt219 35 90 [some (.ref 19), some (.int p1), some (.int p2), some (.int p3), some (.int p4), some (.int 1), some (.int 0), some (.int b7), some (.int x20)] [] rfl rfl ?_
      refine z_xN zt219 36 rfl rfl (fun (x105 : Int32) (h106 : x105.toInt = b7.toInt + 1) => ?_) (z_pAdd rfl rfl (by omega) (by omega))
      show z_ev (d + 1) 219 93 [some (.ref 19), some (.int p1), some (.int p2), some (.int p3), some (.int p4), some (.int 1), some (.int 0), some (.int x105), some (.int x20)] [] M _
      refine z_xP zt219 37 9 [some (.ref 19), some (.int p1), some (.int p2), some (.int p3), some (.int p4), some (.int 1), some (.int 0), some (.int x105), some (.int x20)] [] rfl rfl ?_
      have i107 : x105.toInt.toNat = b7.toInt.toNat + 1 := by omega
      have q1 : ((1 : Int32)).toInt = 1 := rfl
      have i108 := (z_sbit h67 h69 (by omega) ⟨by omega, by omega⟩)
      have i109 : x105.toInt.toNat = b7.toInt.toNat + 1 := by omega
      have q0 : ((0 : Int32)).toInt = 0 := rfl
      have i110 := (z_sbit h101 h103 (by omega) ⟨by omega, by omega⟩)
      have q0 : ((0 : Int32)).toInt = 0 := rfl
      have q1 : ((1 : Int32)).toInt = 1 := rfl
      exact ih M (1) (0) x105 (some (.int x20)) z0 X (by decide) (by decide) ⟨by omega, by omega⟩ hp0 ⟨by omega, by omega⟩ (by omega) (by rw [i107]; exact y_fbY hY (by omega) (S := (fun j => z_Ar M0 30 (1024 * p1.toNatClampNeg + j))) (s := x20) (by show z_Ar M0 30 (1024 * p1.toNatClampNeg + b7.toInt.toNat) = _; rw [show 1024 * p1.toNatClampNeg + b7.toInt.toNat = x18.toNatClampNeg from by unfold Int32.toNatClampNeg; omega]; exact (congrFun (X.2.a f30 (by decide)) _).symm.trans h21) ⟨by rw [← h25]; omega, by rw [← h35]; omega⟩ (by omega)) (by rw [i109]; exact y_fbN hN (by omega) (S := (fun j => z_Ar M0 30 (1024 * p1.toNatClampNeg + j))) (s := x20) (by show z_Ar M0 30 (1024 * p1.toNatClampNeg + b7.toInt.toNat) = _; rw [show 1024 * p1.toNatClampNeg + b7.toInt.toNat = x18.toNatClampNeg from by unfold Int32.toNatClampNeg; omega]; exact (congrFun (X.2.a f30 (by decide)) _).symm.trans h21) (fun hh => absurd hh.2 (by omega))) (by omega)
    refine z_xP zt219 33 88 [some (.ref 19), some (.int p1), some (.int p2), some (.int p3), some (.int p4), some (.int 1), some (.int b6), some (.int b7), some (.int x20)] [.int 1] rfl rfl ?_
    refine z_xP zt219 35 90 [some (.ref 19), some (.int p1), some (.int p2), some (.int p3), some (.int p4), some (.int 1), some (.int 1), some (.int b7), some (.int x20)] [] rfl rfl ?_
    refine z_xN zt219 36 rfl rfl (fun (x111 : Int32) (h112 : x111.toInt = b7.toInt + 1) => ?_) (z_pAdd rfl rfl (by omega) (by omega))
    show z_ev (d + 1) 219 93 [some (.ref 19), some (.int p1), some (.int p2), some (.int p3), some (.int p4), some (.int 1), some (.int 1), some (.int x111), some (.int x20)] [] M _
    refine z_xP zt219 37 9 [some (.ref 19), some (.int p1), some (.int p2), some (.int p3), some (.int p4), some (.int 1), some (.int 1), some (.int x111), some (.int x20)] [] rfl rfl ?_
    have i113 : x111.toInt.toNat = b7.toInt.toNat + 1 := by omega
    have q1 : ((1 : Int32)).toInt = 1 := rfl
    have i114 := (z_sbit h67 h69 (by omega) ⟨by omega, by omega⟩)
    have i115 : x111.toInt.toNat = b7.toInt.toNat + 1 := by omega
    have q1 : ((1 : Int32)).toInt = 1 := rfl
    have i116 := (z_sbit h101 h103 (by omega) ⟨by omega, by omega⟩)
    have q1 : ((1 : Int32)).toInt = 1 := rfl
    exact ih M (1) (1) x111 (some (.int x20)) z0 X (by decide) (by decide) ⟨by omega, by omega⟩ hp0 ⟨by omega, by omega⟩ (by omega) (by rw [i113]; exact y_fbY hY (by omega) (S := (fun j => z_Ar M0 30 (1024 * p1.toNatClampNeg + j))) (s := x20) (by show z_Ar M0 30 (1024 * p1.toNatClampNeg + b7.toInt.toNat) = _; rw [show 1024 * p1.toNatClampNeg + b7.toInt.toNat = x18.toNatClampNeg from by unfold Int32.toNatClampNeg; omega]; exact (congrFun (X.2.a f30 (by decide)) _).symm.trans h21) ⟨by rw [← h25]; omega, by rw [← h35]; omega⟩ (by omega)) (by rw [i115]; exact y_fbY hN (by omega) (S := (fun j => z_Ar M0 30 (1024 * p1.toNatClampNeg + j))) (s := x20) (by show z_Ar M0 30 (1024 * p1.toNatClampNeg + b7.toInt.toNat) = _; rw [show 1024 * p1.toNatClampNeg + b7.toInt.toNat = x18.toNatClampNeg from by unfold Int32.toNatClampNeg; omega]; exact (congrFun (X.2.a f30 (by decide)) _).symm.trans h21) ⟨by rw [← h25]; omega, by rw [← h35]; omega⟩ (by omega)) (by omega)
theorem zUC219 {T : List zK} {d : Nat} {K : Option Value → zH → Prop} {p1 : Int32} {p2 : Int32} {p3 : Int32} {p4 : Int32} {M0 : zH} (hW : z_W M0 T) (u1 : 0 ≤ p1.toInt ∧ p1.toInt ≤ 7) (hq4 : 0 ≤ p4.toInt ∧ p4.toInt < 10) (kk : ∀ (x : Int32) (M1 : zH), z_X T zw219 M0 M1 → (-3) ≤ x.toInt → x.toInt ≤ 1 → y_fo (fun j => z_Ar M0 30 (1024 * p1.toNatClampNeg + j)) p2 p3 p4.toInt.toNat (z_Ar M0 31 p1.toNatClampNeg).toInt.toNat x.toInt → K (some (.int x)) M1) : z_ev (d + 1) 219 0 [some (.ref 19), some (.int p1), some (.int p2), some (.int p3), some (.int p4), none, none, none, none] [] M0 K := by
  have X : z_X T zw219 M0 M0 := .refl hW
  refine z_xP zt219 0 9 [some (.ref 19), some (.int p1), some (.int p2), some (.int p3), some (.int p4), some (.int 0), some (.int 0), some (.int 0), none] [] rfl rfl ?_
  have f31 : T[31]? = some (.inr (31, 0, 8, 0, 1024)) := X.1.k rfl (by decide)
  obtain ⟨x1, h2, h3, h4⟩ := z_W.ae (x := p1) X.1 f31 (by decide) (by omega) (by omega)
  have q0 : ((0 : Int32)).toInt = 0 := rfl
  exact (zUB219 u1 hq4 kk 2050) M0 (0) (0) (0) none x1 X (by decide) (by decide) (by decide) h2 ⟨by omega, by omega⟩ (by omega) (y_fb0 (x0 := 0) rfl rfl) (y_fb0 (x0 := 0) rfl rfl) (by omega)
