/-! 91, 90, told -/
theorem zUB91 {T : List zK} {d : Nat} {K : Option Value → zH → Prop} {a0 : Nat} {q : Nat} {t : Nat} {m : Nat} {J : Nat} {p1 : Int32} {p2 : Int32} {N t2 pr en uy un : Nat} {B : Nat → Nat} {M0 : zH} (k0 : T[a0]? = some (.inl (3, q, t, m, J))) (u1 : 0 ≤ p1.toInt ∧ p1.toInt ≤ 9) (u2 : 0 ≤ p2.toInt ∧ p2.toInt ≤ 1) (hb0 : p1.toInt < (q : Int)) (hW0 : z_W M0 T) (hbk : z_blk T M0) (hN0 : z_F M0 a0 0 = some (.ref N)) (hag : z_AGO T M0 N q t2 m pr en B) (hlf : z_lft B q uy un (z_sp m) (z_Lg M0 (a0 + 10))) (kk : ∀ (x : Int32) (M1 : zH), z_X T zw91 M0 M1 → 0 ≤ x.toInt → x.toInt ≤ 1 → ((x.toInt = 1 ∧ z_tuY B q (z_Ar M0 (a0 + 4) p1.toNatClampNeg).toInt (p2.toInt ≠ 0) uy un p1.toInt.toNat) ∨ (x.toInt = 0 ∧ ¬ z_tuY B q (z_Ar M0 (a0 + 4) p1.toNatClampNeg).toInt (p2.toInt ≠ 0) uy un p1.toInt.toNat)) → K (some (.int x)) M1) : ∀ n : Nat, (∀ (M : zH) (b3 : Int32) (b4 : Int32) (b5 : Int32), z_X T zw91 M0 M → 0 ≤ b3.toInt ∧ b3.toInt ≤ 1 → 0 ≤ b4.toInt ∧ b4.toInt ≤ 1 → 0 ≤ b5.toInt ∧ b5.toInt ≤ 16 → b5.toInt ≤ ((z_sp m : Nat) : Int) → z_cf B q uy un p1.toInt.toNat 1 b5.toInt.toNat b3.toInt → z_cf B q uy un p1.toInt.toNat 0 b5.toInt.toNat b4.toInt → ((0) * 2 + 0) * 17 + (16 - b5.toInt) < (n : Int) → z_ev (d + 1) 91 8 [some (.ref a0), some (.int p1), some (.int p2), some (.int b3), some (.int b4), some (.int b5)] [] M K) := by
  intro n
  induction n with
  | zero => exact by intros; exfalso; omega
  | succ n ih =>
    intro M b3 b4 b5 X hh0 hh1 hh2 hh3 hY hN hE
    have g0 := X.1.p3 k0
    refine z_xP zt91 1 11 [some (.ref a0), some (.int p1), some (.int p2), some (.int b3), some (.int b4), some (.int b5)] [.ref a0, .int b5] rfl rfl ?_
    refine z_xgR (κ := .inr (209, 1, z_sp m, 0, 0)) zt91 2 rfl zo91 zzf3_49 X k0 (by decide) (by decide) rfl (fun (a2 : Nat) h1 k3 => ?_)
    refine z_xln zt91 3 rfl X k3 (by decide) (by omega) (fun (x4 : Int32) (h5 : x4.toInt = ((z_sp m : Nat) : Int)) => ?_)
    refine z_xJ zt91 4 rfl rfl (fun (h6 : x4.toInt ≤ b5.toInt) => ?_) (fun (h6 : b5.toInt < x4.toInt) => ?_)
    · skip
      refine z_xP zt91 42 102 [some (.ref a0), some (.int p1), some (.int p2), some (.int b3), some (.int b4), some (.int b5)] [.int b4, .int b3] rfl rfl ?_
      refine z_xJ zt91 43 rfl rfl (fun (h7 : b3.toInt = b4.toInt) => ?_) (fun (h7 : b3.toInt ≠ b4.toInt) => ?_)
      · skip
        refine z_xP zt91 46 108 [some (.ref a0), some (.int p1), some (.int p2), some (.int b3), some (.int b4), some (.int b5)] [.ref a0] rfl rfl ?_
        refine z_xgR (κ := .inr (205, 0, 10, (-2147483648), 2147483647)) zt91 47 rfl zo91 zzf3_21 X k0 (by decide) (by decide) rfl (fun (a9 : Nat) h8 k10 => ?_)
        refine z_xP zt91 48 112 [some (.ref a0), some (.int p1), some (.int p2), some (.int b3), some (.int b4), some (.int b5)] [.int p1, .ref a9] rfl rfl ?_
        refine z_xil zt91 49 rfl X k10 (by decide) (by omega) (by omega) (fun (x11 : Int32) h12 (h13 : (-2147483648) ≤ x11.toInt) (h14 : x11.toInt ≤ 2147483647) => ?_)
        refine z_xZ zt91 50 rfl rfl (fun (h15 : 0 < x11.toInt) => ?_) (fun (h15 : x11.toInt ≤ 0) => ?_)
        · skip
          refine z_xP zt91 58 134 [some (.ref a0), some (.int p1), some (.int p2), some (.int b3), some (.int b4), some (.int b5)] [.int 1] rfl rfl ?_
          have q1 : ((1 : Int32)).toInt = 1 := rfl
          have hm16 := hag.2.2.1
          have h117 := z_cfE hY hm16 (by omega)
          have h018 := z_cfE hN hm16 (by omega)
          have ia19 := z_rfe h8 (X.2.f k0 (by decide) (hbk _ _ _ _ _ k0).2.2.2.1)
          have h20 := h12
          rw [ia19] at h20
          have hl21 : (z_Ar M0 (a0 + 4) p1.toNatClampNeg).toInt = x11.toInt := congrArg Int32.toInt ((congrFun (X.2.a (hbk.k4 hW0 k0) (by decide)) _).symm.trans h20)
          have q1 : ((1 : Int32)).toInt = 1 := rfl
          exact z_xrz zt91 60 rfl zzr91 (by decide) (by decide) (kk 1 M X (by omega) (by omega) (z_tuB h117 h018 (by omega) (by rw [hl21]; omega)))
        refine z_xP zt91 51 117 [some (.ref a0), some (.int p1), some (.int p2), some (.int b3), some (.int b4), some (.int b5)] [.ref a0] rfl rfl ?_
        refine z_xgv zt91 52 rfl zo91 zzf3_21 X k0 (by decide) h8 ?_
        refine z_xP zt91 53 121 [some (.ref a0), some (.int p1), some (.int p2), some (.int b3), some (.int b4), some (.int b5)] [.int p1, .ref a9] rfl rfl ?_
        refine z_xil zt91 54 rfl X k10 (by decide) (by omega) (by omega) (fun (x22 : Int32) h23 (h24 : (-2147483648) ≤ x22.toInt) (h25 : x22.toInt ≤ 2147483647) => ?_)
        have h26 := congrArg Int32.toInt (h23.symm.trans h12)
        refine z_xZ zt91 55 rfl rfl (fun (h27 : x22.toInt ≠ 0) => ?_) (fun (h27 : x22.toInt = 0) => ?_)
        · skip
          refine z_xP zt91 59 134 [some (.ref a0), some (.int p1), some (.int p2), some (.int b3), some (.int b4), some (.int b5)] [.int 0] rfl rfl ?_
          have q0 : ((0 : Int32)).toInt = 0 := rfl
          have hm28 := hag.2.2.1
          have h129 := z_cfE hY hm28 (by omega)
          have h030 := z_cfE hN hm28 (by omega)
          have ia31 := z_rfe h8 (X.2.f k0 (by decide) (hbk _ _ _ _ _ k0).2.2.2.1)
          have h32 := h12
          rw [ia31] at h32
          have hl33 : (z_Ar M0 (a0 + 4) p1.toNatClampNeg).toInt = x11.toInt := congrArg Int32.toInt ((congrFun (X.2.a (hbk.k4 hW0 k0) (by decide)) _).symm.trans h32)
          have q0 : ((0 : Int32)).toInt = 0 := rfl
          exact z_xrz zt91 60 rfl zzr91 (by decide) (by decide) (kk 0 M X (by omega) (by omega) (z_tuB h129 h030 (by omega) (by rw [hl33]; omega)))
        refine z_xP zt91 56 126 [some (.ref a0), some (.int p1), some (.int p2), some (.int b3), some (.int b4), some (.int b5)] [.int p2] rfl rfl ?_
        refine z_xZ zt91 57 rfl rfl (fun (h34 : p2.toInt = 0) => ?_) (fun (h34 : p2.toInt ≠ 0) => ?_)
        · skip
          refine z_xP zt91 59 134 [some (.ref a0), some (.int p1), some (.int p2), some (.int b3), some (.int b4), some (.int b5)] [.int 0] rfl rfl ?_
          have q0 : ((0 : Int32)).toInt = 0 := rfl
          have hm35 := hag.2.2.1
          have h136 := z_cfE hY hm35 (by omega)
          have h037 := z_cfE hN hm35 (by omega)
          have ia38 := z_rfe h8 (X.2.f k0 (by decide) (hbk _ _ _ _ _ k0).2.2.2.1)
          have h39 := h12
          rw [ia38] at h39
          have hl40 : (z_Ar M0 (a0 + 4) p1.toNatClampNeg).toInt = x11.toInt := congrArg Int32.toInt ((congrFun (X.2.a (hbk.k4 hW0 k0) (by decide)) _).symm.trans h39)
          have q0 : ((0 : Int32)).toInt = 0 := rfl
          exact z_xrz zt91 60 rfl zzr91 (by decide) (by decide) (kk 0 M X (by omega) (by omega) (z_tuB h136 h037 (by omega) (by rw [hl40]; omega)))
        refine z_xP zt91 58 134 [some (.ref a0), some (.int p1), some (.int p2), some (.int b3), some (.int b4), some (.int b5)] [.int 1] rfl rfl ?_
        have q1 : ((1 : Int32)).toInt = 1 := rfl
        have hm41 := hag.2.2.1
        have h142 := z_cfE hY hm41 (by omega)
        have h043 := z_cfE hN hm41 (by omega)
        have ia44 := z_rfe h8 (X.2.f k0 (by decide) (hbk _ _ _ _ _ k0).2.2.2.1)
        have h45 := h12
        rw [ia44] at h45
        have hl46 : (z_Ar M0 (a0 + 4) p1.toNatClampNeg).toInt = x11.toInt := congrArg Int32.toInt ((congrFun (X.2.a (hbk.k4 hW0 k0) (by decide)) _).symm.trans h45)
        have q1 : ((1 : Int32)).toInt = 1 := rfl
        exact z_xrz zt91 60 rfl zzr91 (by decide) (by decide) (kk 1 M X (by omega) (by omega) (z_tuB h142 h043 (by omega) (by rw [hl46]; omega)))
      refine z_xP zt91 44 106 [some (.ref a0), some (.int p1), some (.int p2), some (.int b3), some (.int b4), some (.int b5)] [.int b3] rfl rfl ?_
      have hm47 := hag.2.2.1
      have h148 := z_cfE hY hm47 (by omega)
      have h049 := z_cfE hN hm47 (by omega)
      exact z_xrz zt91 45 rfl zzr91 (by omega) (by omega) (kk b3 M X (by omega) (by omega) (z_tuA h148 h049 (by omega) (by omega)))
    refine z_xP zt91 5 19 [some (.ref a0), some (.int p1), some (.int p2), some (.int b3), some (.int b4), some (.int b5)] [.int b3] rfl rfl ?_
    refine z_xZ zt91 6 rfl rfl (fun (h50 : b3.toInt = 0) => ?_) (fun (h50 : b3.toInt ≠ 0) => ?_)
    · skip
      refine z_xP zt91 9 29 [some (.ref a0), some (.int p1), some (.int p2), some (.int b3), some (.int b4), some (.int b5)] [.ref a0, .int b3] rfl rfl ?_
      refine z_xgv zt91 10 rfl zo91 zzf3_49 X k0 (by decide) h1 ?_
      refine z_xP zt91 11 34 [some (.ref a0), some (.int p1), some (.int p2), some (.int b3), some (.int b4), some (.int b5)] [.int b5, .ref a2, .int b3] rfl rfl ?_
      refine z_xllv zt91 12 rfl X k3 (by decide) (by omega) (by omega) (fun (y51 : Int64) h52 => ?_)
      refine z_xP zt91 13 36 [some (.ref a0), some (.int p1), some (.int p2), some (.int b3), some (.int b4), some (.int b5)] [.ref a0, .long y51, .int b3] rfl rfl ?_
      refine z_xgR (κ := .inl (2, q, t, m, 0)) zt91 14 rfl zo91 zzf3_39 X k0 (by decide) (by decide) rfl (fun (a54 : Nat) h53 k55 => ?_)
      have g56 := X.1.p2 k55
      refine z_xP zt91 15 43 [some (.ref a0), some (.int p1), some (.int p2), some (.int b3), some (.int b4), some (.int b5)] [.int b5, .int 1, .int p1, .ref a54, .long y51, .int b3] rfl rfl ?_
      refine z_xcV (vs := [.ref a54, .int p1, .int 1, .int b5]) (r := [.long y51, .int b3]) (L2 := [some (.ref a54), some (.int p1), some (.int 1), some (.int b5), none, none]) zt91 16 rfl zo91 zzcV3_115 (Or.inl rfl) rfl X k55 rfl rfl rfl (Nat.le_of_ble_eq_true rfl) zzm92 (Nat.le_of_ble_eq_true rfl) rfl ?_
      refine z_xP zt92 0 1 [some (.ref a54), some (.int p1), some (.int 1), some (.int b5), none, none] [.ref a54] rfl rfl ?_
      refine z_xgR (κ := .inr (111, 1, q * z_sp m, 0, 0)) zt92 1 rfl zo92 zzf2_66 X k55 (by decide) (by decide) rfl (fun (a58 : Nat) h57 k59 => ?_)
      refine z_xP zt92 2 6 [some (.ref a54), some (.int p1), some (.int 1), some (.int b5), none, none] [.ref a54, .int p1, .ref a58] rfl rfl ?_
      refine z_xgI zt92 3 rfl zo92 zzf2_63 X k55 (by decide) (by decide) rfl (fun (x61 : Int32) h60 (h62 : ((z_sp m : Nat) : Int) ≤ x61.toInt) (h63 : x61.toInt ≤ ((z_sp m : Nat) : Int)) => ?_)
      refine z_xI zt92 4 rfl rfl (fun (x64 : Int32) (h65 : x64.toInt = p1.toInt * x61.toInt ∧ 0 ≤ x64.toInt ∧ x64.toInt ≤ 144) => ?_) (z_pMulB (a := 9) (b := 16) rfl rfl (by omega) (by omega) (by omega) (by omega) (by decide) (by decide))
      refine z_xP zt92 5 11 [some (.ref a54), some (.int p1), some (.int 1), some (.int b5), none, none] [.int b5, .int x64, .ref a58] rfl rfl ?_
      refine z_xI zt92 6 rfl rfl (fun (x66 : Int32) (h67 : x66.toInt = x64.toInt + b5.toInt) => ?_) (z_pAdd rfl rfl (by omega) (by omega))
      have h68 := z_nlx (p := x64.toInt) (x := p1.toInt) (y := x61.toInt) (s := b5.toInt) (z := x66.toInt) (A := q) (B := z_sp m) (by omega) (by omega) (by omega) (by omega) (by omega) (by omega) (by omega)
      refine z_xllv zt92 7 rfl X k59 (by decide) h68.1 h68.2 (fun (y69 : Int64) h70 => ?_)
      refine z_xP zt92 8 16 [some (.ref a54), some (.int p1), some (.int 1), some (.int b5), some (.long y69), none] [.int 1] rfl rfl ?_
      refine z_xZ zt92 9 rfl rfl (fun (h71 : (1 : Int) = 0) => absurd h71 (by omega)) (fun (h71 : (1 : Int) ≠ 0) => ?_)
      refine z_xP zt92 10 30 [some (.ref a54), some (.int p1), some (.int 1), some (.int b5), some (.long y69), none] [.long y69] rfl rfl ?_
      refine z_xrl zt92 14 rfl zzr92 ?_
      show z_ev (d + 1) 91 46 [some (.ref a0), some (.int p1), some (.int p2), some (.int b3), some (.int b4), some (.int b5)] [.long y69, .long y51, .int b3] M _
      refine z_xL zt91 17 rfl rfl (fun (y72 : Int64) (h73 : y72 = y51 &&& y69) => ?_) (rfl)
      refine z_xP zt91 18 48 [some (.ref a0), some (.int p1), some (.int p2), some (.int b3), some (.int b4), some (.int b5)] [.long 0, .long y72, .int b3] rfl rfl ?_
      refine z_xI zt91 19 rfl rfl (fun (x74 : Int32) (h75 : (x74.toInt < 0 ∧ y72.toInt < 0) ∨ (x74.toInt = 0 ∧ y72.toInt = 0) ∨ (0 < x74.toInt ∧ 0 < y72.toInt)) => ?_) (z_qCmp rfl rfl)
      refine z_xZ zt91 20 rfl rfl (fun (h76 : x74.toInt = 0) => ?_) (fun (h76 : x74.toInt ≠ 0) => ?_)
      · skip
        refine z_xP zt91 22 57 [some (.ref a0), some (.int p1), some (.int p2), some (.int b3), some (.int b4), some (.int b5)] [.int 0, .int b3] rfl rfl ?_
        refine z_xI zt91 23 rfl rfl (fun (x77 : Int32) (h78 : x77 = b3) => ?_) (Int32.or_zero)
        have eh78 := congrArg Int32.toInt h78
        refine z_xP zt91 24 62 [some (.ref a0), some (.int p1), some (.int p2), some (.int x77), some (.int b4), some (.int b5)] [.ref a0, .int b4] rfl rfl ?_
        refine z_xgv zt91 25 rfl zo91 zzf3_49 X k0 (by decide) h1 ?_
        refine z_xP zt91 26 67 [some (.ref a0), some (.int p1), some (.int p2), some (.int x77), some (.int b4), some (.int b5)] [.int b5, .ref a2, .int b4] rfl rfl ?_
        refine z_xllv zt91 27 rfl X k3 (by decide) (by omega) (by omega) (fun (y79 : Int64) h80 => ?_)
        refine z_xP zt91 28 69 [some (.ref a0), some (.int p1), some (.int p2), some (.int x77), some (.int b4), some (.int b5)] [.ref a0, .long y79, .int b4] rfl rfl ?_
        refine z_xgv zt91 29 rfl zo91 zzf3_39 X k0 (by decide) h53 ?_
        refine z_xP zt91 30 76 [some (.ref a0), some (.int p1), some (.int p2), some (.int x77), some (.int b4), some (.int b5)] [.int b5, .int 0, .int p1, .ref a54, .long y79, .int b4] rfl rfl ?_
        refine z_xcV (vs := [.ref a54, .int p1, .int 0, .int b5]) (r := [.long y79, .int b4]) (L2 := [some (.ref a54), some (.int p1), some (.int 0), some (.int b5), none, none]) zt91 31 rfl zo91 zzcV3_115 (Or.inl rfl) rfl X k55 rfl rfl rfl (Nat.le_of_ble_eq_true rfl) zzm92 (Nat.le_of_ble_eq_true rfl) rfl ?_
        refine z_xP zt92 0 1 [some (.ref a54), some (.int p1), some (.int 0), some (.int b5), none, none] [.ref a54] rfl rfl ?_
        refine z_xgv zt92 1 rfl zo92 zzf2_66 X k55 (by decide) h57 ?_
        refine z_xP zt92 2 6 [some (.ref a54), some (.int p1), some (.int 0), some (.int b5), none, none] [.ref a54, .int p1, .ref a58] rfl rfl ?_
        refine z_xgv zt92 3 rfl zo92 zzf2_63 X k55 (by decide) h60 ?_
        refine z_xI zt92 4 rfl rfl (fun (x81 : Int32) (h82 : x81.toInt = p1.toInt * x61.toInt ∧ 0 ≤ x81.toInt ∧ x81.toInt ≤ 144) => ?_) (z_pMulB (a := 9) (b := 16) rfl rfl (by omega) (by omega) (by omega) (by omega) (by decide) (by decide))
        refine z_xP zt92 5 11 [some (.ref a54), some (.int p1), some (.int 0), some (.int b5), none, none] [.int b5, .int x81, .ref a58] rfl rfl ?_
        refine z_xI zt92 6 rfl rfl (fun (x83 : Int32) (h84 : x83.toInt = x81.toInt + b5.toInt) => ?_) (z_pAdd rfl rfl (by omega) (by omega))
        have h85 := z_nlx (p := x81.toInt) (x := p1.toInt) (y := x61.toInt) (s := b5.toInt) (z := x83.toInt) (A := q) (B := z_sp m) (by omega) (by omega) (by omega) (by omega) (by omega) (by omega) (by omega)
        refine z_xllv zt92 7 rfl X k59 (by decide) h85.1 h85.2 (fun (y86 : Int64) h87 => ?_)
        refine z_xP zt92 8 16 [some (.ref a54), some (.int p1), some (.int 0), some (.int b5), some (.long y86), none] [.int 0] rfl rfl ?_
        refine z_xZ zt92 9 rfl rfl (fun (h88 : (0 : Int) = 0) => ?_) (fun (h88 : (0 : Int) ≠ 0) => absurd h88 (by omega))
        refine z_xP zt92 11 26 [some (.ref a54), some (.int p1), some (.int 0), some (.int b5), some (.long y86), none] [.long y86] rfl rfl ?_
        refine z_xl2 zt92 12 rfl zo92 zkl2_38 ?_
        refine z_xL zt92 13 rfl rfl (fun (y89 : Int64) (h90 : y89 = y86 ^^^ (-1)) => ?_) (rfl)
        refine z_xrl zt92 14 rfl zzr92 ?_
        show z_ev (d + 1) 91 79 [some (.ref a0), some (.int p1), some (.int p2), some (.int x77), some (.int b4), some (.int b5)] [.long y89, .long y79, .int b4] M _
        refine z_xL zt91 32 rfl rfl (fun (y91 : Int64) (h92 : y91 = y79 &&& y89) => ?_) (rfl)
        refine z_xP zt91 33 81 [some (.ref a0), some (.int p1), some (.int p2), some (.int x77), some (.int b4), some (.int b5)] [.long 0, .long y91, .int b4] rfl rfl ?_
        refine z_xI zt91 34 rfl rfl (fun (x93 : Int32) (h94 : (x93.toInt < 0 ∧ y91.toInt < 0) ∨ (x93.toInt = 0 ∧ y91.toInt = 0) ∨ (0 < x93.toInt ∧ 0 < y91.toInt)) => ?_) (z_qCmp rfl rfl)
        refine z_xZ zt91 35 rfl rfl (fun (h95 : x93.toInt = 0) => ?_) (fun (h95 : x93.toInt ≠ 0) => ?_)
        · skip
          refine z_xP zt91 37 90 [some (.ref a0), some (.int p1), some (.int p2), some (.int x77), some (.int b4), some (.int b5)] [.int 0, .int b4] rfl rfl ?_
          refine z_xI zt91 38 rfl rfl (fun (x96 : Int32) (h97 : x96 = b4) => ?_) (Int32.or_zero)
          have eh97 := congrArg Int32.toInt h97
          refine z_xP zt91 39 93 [some (.ref a0), some (.int p1), some (.int p2), some (.int x77), some (.int x96), some (.int b5)] [] rfl rfl ?_
          refine z_xN zt91 40 rfl rfl (fun (x98 : Int32) (h99 : x98.toInt = b5.toInt + 1) => ?_) (z_pAdd rfl rfl (by omega) (by omega))
          show z_ev (d + 1) 91 96 [some (.ref a0), some (.int p1), some (.int p2), some (.int x77), some (.int x96), some (.int x98)] [] M _
          refine z_xP zt91 41 8 [some (.ref a0), some (.int p1), some (.int p2), some (.int x77), some (.int x96), some (.int x98)] [] rfl rfl ?_
          have ia100 := z_rfe h1 (X.2.f k0 (by decide) (hbk _ _ _ _ _ k0).2.2.2.2.2.2.2.2.2)
          have h101 := h52
          rw [ia100] at h101
          have hu102 := hlf b5.toInt.toNat (by omega)
          rw [show z_Lg M0 (a0 + 10) b5.toInt.toNat = y51 from (congrFun (X.2.lg (hbk.k10 hW0 k0) (by decide)) _).symm.trans h101] at hu102
          obtain ⟨-, -, hm103, -, -, -, -, -, -, ⟨ya104, e11_105, k11_106, f11_107⟩⟩ := id hag
          have iN108 := z_rfe h53 (X.2.f k0 (by decide) hN0)
          have h109 := h57
          rw [iN108] at h109
          have hw110 := z_ybw (z_kpL11 h109 (X.2.f hag.1 (by decide) e11_105) h70 (z_ixm (B := z_sp m) h65.1 (by omega) (by omega) h67 (by omega)) (X.2.lg k11_106 (by decide)))
          have i111 : x98.toInt.toNat = b5.toInt.toNat + 1 := by omega
          have ia112 := z_rfe h1 (X.2.f k0 (by decide) (hbk _ _ _ _ _ k0).2.2.2.2.2.2.2.2.2)
          have h113 := h80
          rw [ia112] at h113
          have hu114 := hlf b5.toInt.toNat (by omega)
          rw [show z_Lg M0 (a0 + 10) b5.toInt.toNat = y79 from (congrFun (X.2.lg (hbk.k10 hW0 k0) (by decide)) _).symm.trans h113] at hu114
          have iN115 := z_rfe h53 (X.2.f k0 (by decide) hN0)
          have h116 := h57
          rw [iN115] at h116
          have hw117 := z_ybw (z_kpL11 h116 (X.2.f hag.1 (by decide) e11_105) h87 (z_ixm (B := z_sp m) h82.1 (by omega) (by omega) h84 (by omega)) (X.2.lg k11_106 (by decide)))
          have i118 : x98.toInt.toNat = b5.toInt.toNat + 1 := by omega
          exact ih M x77 x96 x98 X ⟨by omega, by omega⟩ ⟨by omega, by omega⟩ ⟨by omega, by omega⟩ (by omega) (by rw [i111]; exact z_cfN hY ((z_imY hu102 f11_107 hw110 (by omega) (by omega) h73).mp (by omega)) (by rw [h78])) (by rw [i118]; exact z_cfN hN ((z_imN hu114 f11_107 hw117 (by omega) (by omega) h90 h92).mp (by omega)) (by rw [h97])) (by omega)
        refine z_xP zt91 36 90 [some (.ref a0), some (.int p1), some (.int p2), some (.int x77), some (.int b4), some (.int b5)] [.int 1, .int b4] rfl rfl ?_
        refine z_xI zt91 38 rfl rfl (fun (x119 : Int32) (h120 : x119.toInt = 1) => ?_) (z_or1i (by omega))
        refine z_xP zt91 39 93 [some (.ref a0), some (.int p1), some (.int p2), some (.int x77), some (.int x119), some (.int b5)] [] rfl rfl ?_
        refine z_xN zt91 40 rfl rfl (fun (x121 : Int32) (h122 : x121.toInt = b5.toInt + 1) => ?_) (z_pAdd rfl rfl (by omega) (by omega))
        show z_ev (d + 1) 91 96 [some (.ref a0), some (.int p1), some (.int p2), some (.int x77), some (.int x119), some (.int x121)] [] M _
        refine z_xP zt91 41 8 [some (.ref a0), some (.int p1), some (.int p2), some (.int x77), some (.int x119), some (.int x121)] [] rfl rfl ?_
        have ia123 := z_rfe h1 (X.2.f k0 (by decide) (hbk _ _ _ _ _ k0).2.2.2.2.2.2.2.2.2)
        have h124 := h52
        rw [ia123] at h124
        have hu125 := hlf b5.toInt.toNat (by omega)
        rw [show z_Lg M0 (a0 + 10) b5.toInt.toNat = y51 from (congrFun (X.2.lg (hbk.k10 hW0 k0) (by decide)) _).symm.trans h124] at hu125
        obtain ⟨-, -, hm126, -, -, -, -, -, -, ⟨ya127, e11_128, k11_129, f11_130⟩⟩ := id hag
        have iN131 := z_rfe h53 (X.2.f k0 (by decide) hN0)
        have h132 := h57
        rw [iN131] at h132
        have hw133 := z_ybw (z_kpL11 h132 (X.2.f hag.1 (by decide) e11_128) h70 (z_ixm (B := z_sp m) h65.1 (by omega) (by omega) h67 (by omega)) (X.2.lg k11_129 (by decide)))
        have i134 : x121.toInt.toNat = b5.toInt.toNat + 1 := by omega
        have ia135 := z_rfe h1 (X.2.f k0 (by decide) (hbk _ _ _ _ _ k0).2.2.2.2.2.2.2.2.2)
        have h136 := h80
        rw [ia135] at h136
        have hu137 := hlf b5.toInt.toNat (by omega)
        rw [show z_Lg M0 (a0 + 10) b5.toInt.toNat = y79 from (congrFun (X.2.lg (hbk.k10 hW0 k0) (by decide)) _).symm.trans h136] at hu137
        have iN138 := z_rfe h53 (X.2.f k0 (by decide) hN0)
        have h139 := h57
        rw [iN138] at h139
        have hw140 := z_ybw (z_kpL11 h139 (X.2.f hag.1 (by decide) e11_128) h87 (z_ixm (B := z_sp m) h82.1 (by omega) (by omega) h84 (by omega)) (X.2.lg k11_129 (by decide)))
        have i141 : x121.toInt.toNat = b5.toInt.toNat + 1 := by omega
        exact ih M x77 x119 x121 X ⟨by omega, by omega⟩ ⟨by omega, by omega⟩ ⟨by omega, by omega⟩ (by omega) (by rw [i134]; exact z_cfN hY ((z_imY hu125 f11_130 hw133 (by omega) (by omega) h73).mp (by omega)) (by rw [h78])) (by rw [i141]; exact z_cfY hN (Classical.byContradiction fun hn => absurd ((z_imN hu137 f11_130 hw140 (by omega) (by omega) h90 h92).mpr hn) (by omega)) (by omega)) (by omega)
      refine z_xP zt91 21 57 [some (.ref a0), some (.int p1), some (.int p2), some (.int b3), some (.int b4), some (.int b5)] [.int 1, .int b3] rfl rfl ?_
      refine z_xI zt91 23 rfl rfl (fun (x142 : Int32) (h143 : x142.toInt = 1) => ?_) (z_or1i (by omega))
      refine z_xP zt91 24 62 [some (.ref a0), some (.int p1), some (.int p2), some (.int x142), some (.int b4), some (.int b5)] [.ref a0, .int b4] rfl rfl ?_
      refine z_xgv zt91 25 rfl zo91 zzf3_49 X k0 (by decide) h1 ?_
      refine z_xP zt91 26 67 [some (.ref a0), some (.int p1), some (.int p2), some (.int x142), some (.int b4), some (.int b5)] [.int b5, .ref a2, .int b4] rfl rfl ?_
      refine z_xllv zt91 27 rfl X k3 (by decide) (by omega) (by omega) (fun (y144 : Int64) h145 => ?_)
      refine z_xP zt91 28 69 [some (.ref a0), some (.int p1), some (.int p2), some (.int x142), some (.int b4), some (.int b5)] [.ref a0, .long y144, .int b4] rfl rfl ?_
      refine z_xgv zt91 29 rfl zo91 zzf3_39 X k0 (by decide) h53 ?_
      refine z_xP zt91 30 76 [some (.ref a0), some (.int p1), some (.int p2), some (.int x142), some (.int b4), some (.int b5)] [.int b5, .int 0, .int p1, .ref a54, .long y144, .int b4] rfl rfl ?_
      refine z_xcV (vs := [.ref a54, .int p1, .int 0, .int b5]) (r := [.long y144, .int b4]) (L2 := [some (.ref a54), some (.int p1), some (.int 0), some (.int b5), none, none]) zt91 31 rfl zo91 zzcV3_115 (Or.inl rfl) rfl X k55 rfl rfl rfl (Nat.le_of_ble_eq_true rfl) zzm92 (Nat.le_of_ble_eq_true rfl) rfl ?_
      refine z_xP zt92 0 1 [some (.ref a54), some (.int p1), some (.int 0), some (.int b5), none, none] [.ref a54] rfl rfl ?_
      refine z_xgv zt92 1 rfl zo92 zzf2_66 X k55 (by decide) h57 ?_
      refine z_xP zt92 2 6 [some (.ref a54), some (.int p1), some (.int 0), some (.int b5), none, none] [.ref a54, .int p1, .ref a58] rfl rfl ?_
      refine z_xgv zt92 3 rfl zo92 zzf2_63 X k55 (by decide) h60 ?_
      refine z_xI zt92 4 rfl rfl (fun (x146 : Int32) (h147 : x146.toInt = p1.toInt * x61.toInt ∧ 0 ≤ x146.toInt ∧ x146.toInt ≤ 144) => ?_) (z_pMulB (a := 9) (b := 16) rfl rfl (by omega) (by omega) (by omega) (by omega) (by decide) (by decide))
      refine z_xP zt92 5 11 [some (.ref a54), some (.int p1), some (.int 0), some (.int b5), none, none] [.int b5, .int x146, .ref a58] rfl rfl ?_
      refine z_xI zt92 6 rfl rfl (fun (x148 : Int32) (h149 : x148.toInt = x146.toInt + b5.toInt) => ?_) (z_pAdd rfl rfl (by omega) (by omega))
      have h150 := z_nlx (p := x146.toInt) (x := p1.toInt) (y := x61.toInt) (s := b5.toInt) (z := x148.toInt) (A := q) (B := z_sp m) (by omega) (by omega) (by omega) (by omega) (by omega) (by omega) (by omega)
      refine z_xllv zt92 7 rfl X k59 (by decide) h150.1 h150.2 (fun (y151 : Int64) h152 => ?_)
      refine z_xP zt92 8 16 [some (.ref a54), some (.int p1), some (.int 0), some (.int b5), some (.long y151), none] [.int 0] rfl rfl ?_
      refine z_xZ zt92 9 rfl rfl (fun (h153 : (0 : Int) = 0) => ?_) (fun (h153 : (0 : Int) ≠ 0) => absurd h153 (by omega))
      refine z_xP zt92 11 26 [some (.ref a54), some (.int p1), some (.int 0), some (.int b5), some (.long y151), none] [.long y151] rfl rfl ?_
      refine z_xl2 zt92 12 rfl zo92 zkl2_38 ?_
      refine z_xL zt92 13 rfl rfl (fun (y154 : Int64) (h155 : y154 = y151 ^^^ (-1)) => ?_) (rfl)
      refine z_xrl zt92 14 rfl zzr92 ?_
      show z_ev (d + 1) 91 79 [some (.ref a0), some (.int p1), some (.int p2), some (.int x142), some (.int b4), some (.int b5)] [.long y154, .long y144, .int b4] M _
      refine z_xL zt91 32 rfl rfl (fun (y156 : Int64) (h157 : y156 = y144 &&& y154) => ?_) (rfl)
      refine z_xP zt91 33 81 [some (.ref a0), some (.int p1), some (.int p2), some (.int x142), some (.int b4), some (.int b5)] [.long 0, .long y156, .int b4] rfl rfl ?_
      refine z_xI zt91 34 rfl rfl (fun (x158 : Int32) (h159 : (x158.toInt < 0 ∧ y156.toInt < 0) ∨ (x158.toInt = 0 ∧ y156.toInt = 0) ∨ (0 < x158.toInt ∧ 0 < y156.toInt)) => ?_) (z_qCmp rfl rfl)
      refine z_xZ zt91 35 rfl rfl (fun (h160 : x158.toInt = 0) => ?_) (fun (h160 : x158.toInt ≠ 0) => ?_)
      · skip
        refine z_xP zt91 37 90 [some (.ref a0), some (.int p1), some (.int p2), some (.int x142), some (.int b4), some (.int b5)] [.int 0, .int b4] rfl rfl ?_
        refine z_xI zt91 38 rfl rfl (fun (x161 : Int32) (h162 : x161 = b4) => ?_) (Int32.or_zero)
        have eh162 := congrArg Int32.toInt h162
        refine z_xP zt91 39 93 [some (.ref a0), some (.int p1), some (.int p2), some (.int x142), some (.int x161), some (.int b5)] [] rfl rfl ?_
        refine z_xN zt91 40 rfl rfl (fun (x163 : Int32) (h164 : x163.toInt = b5.toInt + 1) => ?_) (z_pAdd rfl rfl (by omega) (by omega))
        show z_ev (d + 1) 91 96 [some (.ref a0), some (.int p1), some (.int p2), some (.int x142), some (.int x161), some (.int x163)] [] M _
        refine z_xP zt91 41 8 [some (.ref a0), some (.int p1), some (.int p2), some (.int x142), some (.int x161), some (.int x163)] [] rfl rfl ?_
        have ia165 := z_rfe h1 (X.2.f k0 (by decide) (hbk _ _ _ _ _ k0).2.2.2.2.2.2.2.2.2)
        have h166 := h52
        rw [ia165] at h166
        have hu167 := hlf b5.toInt.toNat (by omega)
        rw [show z_Lg M0 (a0 + 10) b5.toInt.toNat = y51 from (congrFun (X.2.lg (hbk.k10 hW0 k0) (by decide)) _).symm.trans h166] at hu167
        obtain ⟨-, -, hm168, -, -, -, -, -, -, ⟨ya169, e11_170, k11_171, f11_172⟩⟩ := id hag
        have iN173 := z_rfe h53 (X.2.f k0 (by decide) hN0)
        have h174 := h57
        rw [iN173] at h174
        have hw175 := z_ybw (z_kpL11 h174 (X.2.f hag.1 (by decide) e11_170) h70 (z_ixm (B := z_sp m) h65.1 (by omega) (by omega) h67 (by omega)) (X.2.lg k11_171 (by decide)))
        have i176 : x163.toInt.toNat = b5.toInt.toNat + 1 := by omega
        have ia177 := z_rfe h1 (X.2.f k0 (by decide) (hbk _ _ _ _ _ k0).2.2.2.2.2.2.2.2.2)
        have h178 := h145
        rw [ia177] at h178
        have hu179 := hlf b5.toInt.toNat (by omega)
        rw [show z_Lg M0 (a0 + 10) b5.toInt.toNat = y144 from (congrFun (X.2.lg (hbk.k10 hW0 k0) (by decide)) _).symm.trans h178] at hu179
        have iN180 := z_rfe h53 (X.2.f k0 (by decide) hN0)
        have h181 := h57
        rw [iN180] at h181
        have hw182 := z_ybw (z_kpL11 h181 (X.2.f hag.1 (by decide) e11_170) h152 (z_ixm (B := z_sp m) h147.1 (by omega) (by omega) h149 (by omega)) (X.2.lg k11_171 (by decide)))
        have i183 : x163.toInt.toNat = b5.toInt.toNat + 1 := by omega
        exact ih M x142 x161 x163 X ⟨by omega, by omega⟩ ⟨by omega, by omega⟩ ⟨by omega, by omega⟩ (by omega) (by rw [i176]; exact z_cfY hY (Classical.byContradiction fun hn => absurd ((z_imY hu167 f11_172 hw175 (by omega) (by omega) h73).mpr hn) (by omega)) (by omega)) (by rw [i183]; exact z_cfN hN ((z_imN hu179 f11_172 hw182 (by omega) (by omega) h155 h157).mp (by omega)) (by rw [h162])) (by omega)
      refine z_xP zt91 36 90 [some (.ref a0), some (.int p1), some (.int p2), some (.int x142), some (.int b4), some (.int b5)] [.int 1, .int b4] rfl rfl ?_
      refine z_xI zt91 38 rfl rfl (fun (x184 : Int32) (h185 : x184.toInt = 1) => ?_) (z_or1i (by omega))
      refine z_xP zt91 39 93 [some (.ref a0), some (.int p1), some (.int p2), some (.int x142), some (.int x184), some (.int b5)] [] rfl rfl ?_
      refine z_xN zt91 40 rfl rfl (fun (x186 : Int32) (h187 : x186.toInt = b5.toInt + 1) => ?_) (z_pAdd rfl rfl (by omega) (by omega))
      show z_ev (d + 1) 91 96 [some (.ref a0), some (.int p1), some (.int p2), some (.int x142), some (.int x184), some (.int x186)] [] M _
      refine z_xP zt91 41 8 [some (.ref a0), some (.int p1), some (.int p2), some (.int x142), some (.int x184), some (.int x186)] [] rfl rfl ?_
      have ia188 := z_rfe h1 (X.2.f k0 (by decide) (hbk _ _ _ _ _ k0).2.2.2.2.2.2.2.2.2)
      have h189 := h52
      rw [ia188] at h189
      have hu190 := hlf b5.toInt.toNat (by omega)
      rw [show z_Lg M0 (a0 + 10) b5.toInt.toNat = y51 from (congrFun (X.2.lg (hbk.k10 hW0 k0) (by decide)) _).symm.trans h189] at hu190
      obtain ⟨-, -, hm191, -, -, -, -, -, -, ⟨ya192, e11_193, k11_194, f11_195⟩⟩ := id hag
      have iN196 := z_rfe h53 (X.2.f k0 (by decide) hN0)
      have h197 := h57
      rw [iN196] at h197
      have hw198 := z_ybw (z_kpL11 h197 (X.2.f hag.1 (by decide) e11_193) h70 (z_ixm (B := z_sp m) h65.1 (by omega) (by omega) h67 (by omega)) (X.2.lg k11_194 (by decide)))
      have i199 : x186.toInt.toNat = b5.toInt.toNat + 1 := by omega
      have ia200 := z_rfe h1 (X.2.f k0 (by decide) (hbk _ _ _ _ _ k0).2.2.2.2.2.2.2.2.2)
      have h201 := h145
      rw [ia200] at h201
      have hu202 := hlf b5.toInt.toNat (by omega)
      rw [show z_Lg M0 (a0 + 10) b5.toInt.toNat = y144 from (congrFun (X.2.lg (hbk.k10 hW0 k0) (by decide)) _).symm.trans h201] at hu202
      have iN203 := z_rfe h53 (X.2.f k0 (by decide) hN0)
      have h204 := h57
      rw [iN203] at h204
      have hw205 := z_ybw (z_kpL11 h204 (X.2.f hag.1 (by decide) e11_193) h152 (z_ixm (B := z_sp m) h147.1 (by omega) (by omega) h149 (by omega)) (X.2.lg k11_194 (by decide)))
      have i206 : x186.toInt.toNat = b5.toInt.toNat + 1 := by omega
      exact ih M x142 x184 x186 X ⟨by omega, by omega⟩ ⟨by omega, by omega⟩ ⟨by omega, by omega⟩ (by omega) (by rw [i199]; exact z_cfY hY (Classical.byContradiction fun hn => absurd ((z_imY hu190 f11_195 hw198 (by omega) (by omega) h73).mpr hn) (by omega)) (by omega)) (by rw [i206]; exact z_cfY hN (Classical.byContradiction fun hn => absurd ((z_imN hu202 f11_195 hw205 (by omega) (by omega) h155 h157).mpr hn) (by omega)) (by omega)) (by omega)
    refine z_xP zt91 7 24 [some (.ref a0), some (.int p1), some (.int p2), some (.int b3), some (.int b4), some (.int b5)] [.int b4] rfl rfl ?_
    refine z_xZ zt91 8 rfl rfl (fun (h207 : b4.toInt ≠ 0) => ?_) (fun (h207 : b4.toInt = 0) => ?_)
    · skip
      refine z_xP zt91 42 102 [some (.ref a0), some (.int p1), some (.int p2), some (.int b3), some (.int b4), some (.int b5)] [.int b4, .int b3] rfl rfl ?_
      refine z_xJ zt91 43 rfl rfl (fun (h208 : b3.toInt = b4.toInt) => ?_) (fun (h208 : b3.toInt ≠ b4.toInt) => absurd h208 (by omega))
      refine z_xP zt91 46 108 [some (.ref a0), some (.int p1), some (.int p2), some (.int b3), some (.int b4), some (.int b5)] [.ref a0] rfl rfl ?_
      refine z_xgR (κ := .inr (205, 0, 10, (-2147483648), 2147483647)) zt91 47 rfl zo91 zzf3_21 X k0 (by decide) (by decide) rfl (fun (a210 : Nat) h209 k211 => ?_)
      refine z_xP zt91 48 112 [some (.ref a0), some (.int p1), some (.int p2), some (.int b3), some (.int b4), some (.int b5)] [.int p1, .ref a210] rfl rfl ?_
      refine z_xil zt91 49 rfl X k211 (by decide) (by omega) (by omega) (fun (x212 : Int32) h213 (h214 : (-2147483648) ≤ x212.toInt) (h215 : x212.toInt ≤ 2147483647) => ?_)
      refine z_xZ zt91 50 rfl rfl (fun (h216 : 0 < x212.toInt) => ?_) (fun (h216 : x212.toInt ≤ 0) => ?_)
      · skip
        refine z_xP zt91 58 134 [some (.ref a0), some (.int p1), some (.int p2), some (.int b3), some (.int b4), some (.int b5)] [.int 1] rfl rfl ?_
        have q1 : ((1 : Int32)).toInt = 1 := rfl
        have hm217 := hag.2.2.1
        have h1218 := z_cfE hY hm217 (by omega)
        have h0219 := z_cfE hN hm217 (by omega)
        have ia220 := z_rfe h209 (X.2.f k0 (by decide) (hbk _ _ _ _ _ k0).2.2.2.1)
        have h221 := h213
        rw [ia220] at h221
        have hl222 : (z_Ar M0 (a0 + 4) p1.toNatClampNeg).toInt = x212.toInt := congrArg Int32.toInt ((congrFun (X.2.a (hbk.k4 hW0 k0) (by decide)) _).symm.trans h221)
        have q1 : ((1 : Int32)).toInt = 1 := rfl
        exact z_xrz zt91 60 rfl zzr91 (by decide) (by decide) (kk 1 M X (by omega) (by omega) (z_tuB h1218 h0219 (by omega) (by rw [hl222]; omega)))
      refine z_xP zt91 51 117 [some (.ref a0), some (.int p1), some (.int p2), some (.int b3), some (.int b4), some (.int b5)] [.ref a0] rfl rfl ?_
      refine z_xgv zt91 52 rfl zo91 zzf3_21 X k0 (by decide) h209 ?_
      refine z_xP zt91 53 121 [some (.ref a0), some (.int p1), some (.int p2), some (.int b3), some (.int b4), some (.int b5)] [.int p1, .ref a210] rfl rfl ?_
      refine z_xil zt91 54 rfl X k211 (by decide) (by omega) (by omega) (fun (x223 : Int32) h224 (h225 : (-2147483648) ≤ x223.toInt) (h226 : x223.toInt ≤ 2147483647) => ?_)
      have h227 := congrArg Int32.toInt (h224.symm.trans h213)
      refine z_xZ zt91 55 rfl rfl (fun (h228 : x223.toInt ≠ 0) => ?_) (fun (h228 : x223.toInt = 0) => ?_)
      · skip
        refine z_xP zt91 59 134 [some (.ref a0), some (.int p1), some (.int p2), some (.int b3), some (.int b4), some (.int b5)] [.int 0] rfl rfl ?_
        have q0 : ((0 : Int32)).toInt = 0 := rfl
        have hm229 := hag.2.2.1
        have h1230 := z_cfE hY hm229 (by omega)
        have h0231 := z_cfE hN hm229 (by omega)
        have ia232 := z_rfe h209 (X.2.f k0 (by decide) (hbk _ _ _ _ _ k0).2.2.2.1)
        have h233 := h213
        rw [ia232] at h233
        have hl234 : (z_Ar M0 (a0 + 4) p1.toNatClampNeg).toInt = x212.toInt := congrArg Int32.toInt ((congrFun (X.2.a (hbk.k4 hW0 k0) (by decide)) _).symm.trans h233)
        have q0 : ((0 : Int32)).toInt = 0 := rfl
        exact z_xrz zt91 60 rfl zzr91 (by decide) (by decide) (kk 0 M X (by omega) (by omega) (z_tuB h1230 h0231 (by omega) (by rw [hl234]; omega)))
      refine z_xP zt91 56 126 [some (.ref a0), some (.int p1), some (.int p2), some (.int b3), some (.int b4), some (.int b5)] [.int p2] rfl rfl ?_
      refine z_xZ zt91 57 rfl rfl (fun (h235 : p2.toInt = 0) => ?_) (fun (h235 : p2.toInt ≠ 0) => ?_)
      · skip
        refine z_xP zt91 59 134 [some (.ref a0), some (.int p1), some (.int p2), some (.int b3), some (.int b4), some (.int b5)] [.int 0] rfl rfl ?_
        have q0 : ((0 : Int32)).toInt = 0 := rfl
        have hm236 := hag.2.2.1
        have h1237 := z_cfE hY hm236 (by omega)
        have h0238 := z_cfE hN hm236 (by omega)
        have ia239 := z_rfe h209 (X.2.f k0 (by decide) (hbk _ _ _ _ _ k0).2.2.2.1)
        have h240 := h213
        rw [ia239] at h240
        have hl241 : (z_Ar M0 (a0 + 4) p1.toNatClampNeg).toInt = x212.toInt := congrArg Int32.toInt ((congrFun (X.2.a (hbk.k4 hW0 k0) (by decide)) _).symm.trans h240)
        have q0 : ((0 : Int32)).toInt = 0 := rfl
        exact z_xrz zt91 60 rfl zzr91 (by decide) (by decide) (kk 0 M X (by omega) (by omega) (z_tuB h1237 h0238 (by omega) (by rw [hl241]; omega)))
      refine z_xP zt91 58 134 [some (.ref a0), some (.int p1), some (.int p2), some (.int b3), some (.int b4), some (.int b5)] [.int 1] rfl rfl ?_
      have q1 : ((1 : Int32)).toInt = 1 := rfl
      have hm242 := hag.2.2.1
      have h1243 := z_cfE hY hm242 (by omega)
      have h0244 := z_cfE hN hm242 (by omega)
      have ia245 := z_rfe h209 (X.2.f k0 (by decide) (hbk _ _ _ _ _ k0).2.2.2.1)
      have h246 := h213
      rw [ia245] at h246
      have hl247 : (z_Ar M0 (a0 + 4) p1.toNatClampNeg).toInt = x212.toInt := congrArg Int32.toInt ((congrFun (X.2.a (hbk.k4 hW0 k0) (by decide)) _).symm.trans h246)
      have q1 : ((1 : Int32)).toInt = 1 := rfl
      exact z_xrz zt91 60 rfl zzr91 (by decide) (by decide) (kk 1 M X (by omega) (by omega) (z_tuB h1243 h0244 (by omega) (by rw [hl247]; omega)))
    refine z_xP zt91 9 29 [some (.ref a0), some (.int p1), some (.int p2), some (.int b3), some (.int b4), some (.int b5)] [.ref a0, .int b3] rfl rfl ?_
    refine z_xgv zt91 10 rfl zo91 zzf3_49 X k0 (by decide) h1 ?_
    refine z_xP zt91 11 34 [some (.ref a0), some (.int p1), some (.int p2), some (.int b3), some (.int b4), some (.int b5)] [.int b5, .ref a2, .int b3] rfl rfl ?_
    refine z_xllv zt91 12 rfl X k3 (by decide) (by omega) (by omega) (fun (y248 : Int64) h249 => ?_)
    refine z_xP zt91 13 36 [some (.ref a0), some (.int p1), some (.int p2), some (.int b3), some (.int b4), some (.int b5)] [.ref a0, .long y248, .int b3] rfl rfl ?_
    refine z_xgR (κ := .inl (2, q, t, m, 0)) zt91 14 rfl zo91 zzf3_39 X k0 (by decide) (by decide) rfl (fun (a251 : Nat) h250 k252 => ?_)
    have g253 := X.1.p2 k252
    refine z_xP zt91 15 43 [some (.ref a0), some (.int p1), some (.int p2), some (.int b3), some (.int b4), some (.int b5)] [.int b5, .int 1, .int p1, .ref a251, .long y248, .int b3] rfl rfl ?_
    refine z_xcV (vs := [.ref a251, .int p1, .int 1, .int b5]) (r := [.long y248, .int b3]) (L2 := [some (.ref a251), some (.int p1), some (.int 1), some (.int b5), none, none]) zt91 16 rfl zo91 zzcV3_115 (Or.inl rfl) rfl X k252 rfl rfl rfl (Nat.le_of_ble_eq_true rfl) zzm92 (Nat.le_of_ble_eq_true rfl) rfl ?_
    refine z_xP zt92 0 1 [some (.ref a251), some (.int p1), some (.int 1), some (.int b5), none, none] [.ref a251] rfl rfl ?_
    refine z_xgR (κ := .inr (111, 1, q * z_sp m, 0, 0)) zt92 1 rfl zo92 zzf2_66 X k252 (by decide) (by decide) rfl (fun (a255 : Nat) h254 k256 => ?_)
    refine z_xP zt92 2 6 [some (.ref a251), some (.int p1), some (.int 1), some (.int b5), none, none] [.ref a251, .int p1, .ref a255] rfl rfl ?_
    refine z_xgI zt92 3 rfl zo92 zzf2_63 X k252 (by decide) (by decide) rfl (fun (x258 : Int32) h257 (h259 : ((z_sp m : Nat) : Int) ≤ x258.toInt) (h260 : x258.toInt ≤ ((z_sp m : Nat) : Int)) => ?_)
    refine z_xI zt92 4 rfl rfl (fun (x261 : Int32) (h262 : x261.toInt = p1.toInt * x258.toInt ∧ 0 ≤ x261.toInt ∧ x261.toInt ≤ 144) => ?_) (z_pMulB (a := 9) (b := 16) rfl rfl (by omega) (by omega) (by omega) (by omega) (by decide) (by decide))
    refine z_xP zt92 5 11 [some (.ref a251), some (.int p1), some (.int 1), some (.int b5), none, none] [.int b5, .int x261, .ref a255] rfl rfl ?_
    refine z_xI zt92 6 rfl rfl (fun (x263 : Int32) (h264 : x263.toInt = x261.toInt + b5.toInt) => ?_) (z_pAdd rfl rfl (by omega) (by omega))
    have h265 := z_nlx (p := x261.toInt) (x := p1.toInt) (y := x258.toInt) (s := b5.toInt) (z := x263.toInt) (A := q) (B := z_sp m) (by omega) (by omega) (by omega) (by omega) (by omega) (by omega) (by omega)
    refine z_xllv zt92 7 rfl X k256 (by decide) h265.1 h265.2 (fun (y266 : Int64) h267 => ?_)
    refine z_xP zt92 8 16 [some (.ref a251), some (.int p1), some (.int 1), some (.int b5), some (.long y266), none] [.int 1] rfl rfl ?_
    refine z_xZ zt92 9 rfl rfl (fun (h268 : (1 : Int) = 0) => absurd h268 (by omega)) (fun (h268 : (1 : Int) ≠ 0) => ?_)
    refine z_xP zt92 10 30 [some (.ref a251), some (.int p1), some (.int 1), some (.int b5), some (.long y266), none] [.long y266] rfl rfl ?_
    refine z_xrl zt92 14 rfl zzr92 ?_
    show z_ev (d + 1) 91 46 [some (.ref a0), some (.int p1), some (.int p2), some (.int b3), some (.int b4), some (.int b5)] [.long y266, .long y248, .int b3] M _
    refine z_xL zt91 17 rfl rfl (fun (y269 : Int64) (h270 : y269 = y248 &&& y266) => ?_) (rfl)
    refine z_xP zt91 18 48 [some (.ref a0), some (.int p1), some (.int p2), some (.int b3), some (.int b4), some (.int b5)] [.long 0, .long y269, .int b3] rfl rfl ?_
    refine z_xI zt91 19 rfl rfl (fun (x271 : Int32) (h272 : (x271.toInt < 0 ∧ y269.toInt < 0) ∨ (x271.toInt = 0 ∧ y269.toInt = 0) ∨ (0 < x271.toInt ∧ 0 < y269.toInt)) => ?_) (z_qCmp rfl rfl)
    refine z_xZ zt91 20 rfl rfl (fun (h273 : x271.toInt = 0) => ?_) (fun (h273 : x271.toInt ≠ 0) => ?_)
    · skip
      refine z_xP zt91 22 57 [some (.ref a0), some (.int p1), some (.int p2), some (.int b3), some (.int b4), some (.int b5)] [.int 0, .int b3] rfl rfl ?_
      refine z_xI zt91 23 rfl rfl (fun (x274 : Int32) (h275 : x274 = b3) => ?_) (Int32.or_zero)
      have eh275 := congrArg Int32.toInt h275
      refine z_xP zt91 24 62 [some (.ref a0), some (.int p1), some (.int p2), some (.int x274), some (.int b4), some (.int b5)] [.ref a0, .int b4] rfl rfl ?_
      refine z_xgv zt91 25 rfl zo91 zzf3_49 X k0 (by decide) h1 ?_
      refine z_xP zt91 26 67 [some (.ref a0), some (.int p1), some (.int p2), some (.int x274), some (.int b4), some (.int b5)] [.int b5, .ref a2, .int b4] rfl rfl ?_
      refine z_xllv zt91 27 rfl X k3 (by decide) (by omega) (by omega) (fun (y276 : Int64) h277 => ?_)
      refine z_xP zt91 28 69 [some (.ref a0), some (.int p1), some (.int p2), some (.int x274), some (.int b4), some (.int b5)] [.ref a0, .long y276, .int b4] rfl rfl ?_
      refine z_xgv zt91 29 rfl zo91 zzf3_39 X k0 (by decide) h250 ?_
      refine z_xP zt91 30 76 [some (.ref a0), some (.int p1), some (.int p2), some (.int x274), some (.int b4), some (.int b5)] [.int b5, .int 0, .int p1, .ref a251, .long y276, .int b4] rfl rfl ?_
      refine z_xcV (vs := [.ref a251, .int p1, .int 0, .int b5]) (r := [.long y276, .int b4]) (L2 := [some (.ref a251), some (.int p1), some (.int 0), some (.int b5), none, none]) zt91 31 rfl zo91 zzcV3_115 (Or.inl rfl) rfl X k252 rfl rfl rfl (Nat.le_of_ble_eq_true rfl) zzm92 (Nat.le_of_ble_eq_true rfl) rfl ?_
      refine z_xP zt92 0 1 [some (.ref a251), some (.int p1), some (.int 0), some (.int b5), none, none] [.ref a251] rfl rfl ?_
      refine z_xgv zt92 1 rfl zo92 zzf2_66 X k252 (by decide) h254 ?_
      refine z_xP zt92 2 6 [some (.ref a251), some (.int p1), some (.int 0), some (.int b5), none, none] [.ref a251, .int p1, .ref a255] rfl rfl ?_
      refine z_xgv zt92 3 rfl zo92 zzf2_63 X k252 (by decide) h257 ?_
      refine z_xI zt92 4 rfl rfl (fun (x278 : Int32) (h279 : x278.toInt = p1.toInt * x258.toInt ∧ 0 ≤ x278.toInt ∧ x278.toInt ≤ 144) => ?_) (z_pMulB (a := 9) (b := 16) rfl rfl (by omega) (by omega) (by omega) (by omega) (by decide) (by decide))
      refine z_xP zt92 5 11 [some (.ref a251), some (.int p1), some (.int 0), some (.int b5), none, none] [.int b5, .int x278, .ref a255] rfl rfl ?_
      refine z_xI zt92 6 rfl rfl (fun (x280 : Int32) (h281 : x280.toInt = x278.toInt + b5.toInt) => ?_) (z_pAdd rfl rfl (by omega) (by omega))
      have h282 := z_nlx (p := x278.toInt) (x := p1.toInt) (y := x258.toInt) (s := b5.toInt) (z := x280.toInt) (A := q) (B := z_sp m) (by omega) (by omega) (by omega) (by omega) (by omega) (by omega) (by omega)
      refine z_xllv zt92 7 rfl X k256 (by decide) h282.1 h282.2 (fun (y283 : Int64) h284 => ?_)
      refine z_xP zt92 8 16 [some (.ref a251), some (.int p1), some (.int 0), some (.int b5), some (.long y283), none] [.int 0] rfl rfl ?_
      refine z_xZ zt92 9 rfl rfl (fun (h285 : (0 : Int) = 0) => ?_) (fun (h285 : (0 : Int) ≠ 0) => absurd h285 (by omega))
      refine z_xP zt92 11 26 [some (.ref a251), some (.int p1), some (.int 0), some (.int b5), some (.long y283), none] [.long y283] rfl rfl ?_
      refine z_xl2 zt92 12 rfl zo92 zkl2_38 ?_
      refine z_xL zt92 13 rfl rfl (fun (y286 : Int64) (h287 : y286 = y283 ^^^ (-1)) => ?_) (rfl)
      refine z_xrl zt92 14 rfl zzr92 ?_
      show z_ev (d + 1) 91 79 [some (.ref a0), some (.int p1), some (.int p2), some (.int x274), some (.int b4), some (.int b5)] [.long y286, .long y276, .int b4] M _
      refine z_xL zt91 32 rfl rfl (fun (y288 : Int64) (h289 : y288 = y276 &&& y286) => ?_) (rfl)
      refine z_xP zt91 33 81 [some (.ref a0), some (.int p1), some (.int p2), some (.int x274), some (.int b4), some (.int b5)] [.long 0, .long y288, .int b4] rfl rfl ?_
      refine z_xI zt91 34 rfl rfl (fun (x290 : Int32) (h291 : (x290.toInt < 0 ∧ y288.toInt < 0) ∨ (x290.toInt = 0 ∧ y288.toInt = 0) ∨ (0 < x290.toInt ∧ 0 < y288.toInt)) => ?_) (z_qCmp rfl rfl)
      refine z_xZ zt91 35 rfl rfl (fun (h292 : x290.toInt = 0) => ?_) (fun (h292 : x290.toInt ≠ 0) => ?_)
      · skip
        refine z_xP zt91 37 90 [some (.ref a0), some (.int p1), some (.int p2), some (.int x274), some (.int b4), some (.int b5)] [.int 0, .int b4] rfl rfl ?_
        refine z_xI zt91 38 rfl rfl (fun (x293 : Int32) (h294 : x293 = b4) => ?_) (Int32.or_zero)
        have eh294 := congrArg Int32.toInt h294
        refine z_xP zt91 39 93 [some (.ref a0), some (.int p1), some (.int p2), some (.int x274), some (.int x293), some (.int b5)] [] rfl rfl ?_
        refine z_xN zt91 40 rfl rfl (fun (x295 : Int32) (h296 : x295.toInt = b5.toInt + 1) => ?_) (z_pAdd rfl rfl (by omega) (by omega))
        show z_ev (d + 1) 91 96 [some (.ref a0), some (.int p1), some (.int p2), some (.int x274), some (.int x293), some (.int x295)] [] M _
        refine z_xP zt91 41 8 [some (.ref a0), some (.int p1), some (.int p2), some (.int x274), some (.int x293), some (.int x295)] [] rfl rfl ?_
        have ia297 := z_rfe h1 (X.2.f k0 (by decide) (hbk _ _ _ _ _ k0).2.2.2.2.2.2.2.2.2)
        have h298 := h249
        rw [ia297] at h298
        have hu299 := hlf b5.toInt.toNat (by omega)
        rw [show z_Lg M0 (a0 + 10) b5.toInt.toNat = y248 from (congrFun (X.2.lg (hbk.k10 hW0 k0) (by decide)) _).symm.trans h298] at hu299
        obtain ⟨-, -, hm300, -, -, -, -, -, -, ⟨ya301, e11_302, k11_303, f11_304⟩⟩ := id hag
        have iN305 := z_rfe h250 (X.2.f k0 (by decide) hN0)
        have h306 := h254
        rw [iN305] at h306
        have hw307 := z_ybw (z_kpL11 h306 (X.2.f hag.1 (by decide) e11_302) h267 (z_ixm (B := z_sp m) h262.1 (by omega) (by omega) h264 (by omega)) (X.2.lg k11_303 (by decide)))
        have i308 : x295.toInt.toNat = b5.toInt.toNat + 1 := by omega
        have ia309 := z_rfe h1 (X.2.f k0 (by decide) (hbk _ _ _ _ _ k0).2.2.2.2.2.2.2.2.2)
        have h310 := h277
        rw [ia309] at h310
        have hu311 := hlf b5.toInt.toNat (by omega)
        rw [show z_Lg M0 (a0 + 10) b5.toInt.toNat = y276 from (congrFun (X.2.lg (hbk.k10 hW0 k0) (by decide)) _).symm.trans h310] at hu311
        have iN312 := z_rfe h250 (X.2.f k0 (by decide) hN0)
        have h313 := h254
        rw [iN312] at h313
        have hw314 := z_ybw (z_kpL11 h313 (X.2.f hag.1 (by decide) e11_302) h284 (z_ixm (B := z_sp m) h279.1 (by omega) (by omega) h281 (by omega)) (X.2.lg k11_303 (by decide)))
        have i315 : x295.toInt.toNat = b5.toInt.toNat + 1 := by omega
        exact ih M x274 x293 x295 X ⟨by omega, by omega⟩ ⟨by omega, by omega⟩ ⟨by omega, by omega⟩ (by omega) (by rw [i308]; exact z_cfN hY ((z_imY hu299 f11_304 hw307 (by omega) (by omega) h270).mp (by omega)) (by rw [h275])) (by rw [i315]; exact z_cfN hN ((z_imN hu311 f11_304 hw314 (by omega) (by omega) h287 h289).mp (by omega)) (by rw [h294])) (by omega)
      refine z_xP zt91 36 90 [some (.ref a0), some (.int p1), some (.int p2), some (.int x274), some (.int b4), some (.int b5)] [.int 1, .int b4] rfl rfl ?_
      refine z_xI zt91 38 rfl rfl (fun (x316 : Int32) (h317 : x316.toInt = 1) => ?_) (z_or1i (by omega))
      refine z_xP zt91 39 93 [some (.ref a0), some (.int p1), some (.int p2), some (.int x274), some (.int x316), some (.int b5)] [] rfl rfl ?_
      refine z_xN zt91 40 rfl rfl (fun (x318 : Int32) (h319 : x318.toInt = b5.toInt + 1) => ?_) (z_pAdd rfl rfl (by omega) (by omega))
      show z_ev (d + 1) 91 96 [some (.ref a0), some (.int p1), some (.int p2), some (.int x274), some (.int x316), some (.int x318)] [] M _
      refine z_xP zt91 41 8 [some (.ref a0), some (.int p1), some (.int p2), some (.int x274), some (.int x316), some (.int x318)] [] rfl rfl ?_
      have ia320 := z_rfe h1 (X.2.f k0 (by decide) (hbk _ _ _ _ _ k0).2.2.2.2.2.2.2.2.2)
      have h321 := h249
      rw [ia320] at h321
      have hu322 := hlf b5.toInt.toNat (by omega)
      rw [show z_Lg M0 (a0 + 10) b5.toInt.toNat = y248 from (congrFun (X.2.lg (hbk.k10 hW0 k0) (by decide)) _).symm.trans h321] at hu322
      obtain ⟨-, -, hm323, -, -, -, -, -, -, ⟨ya324, e11_325, k11_326, f11_327⟩⟩ := id hag
      have iN328 := z_rfe h250 (X.2.f k0 (by decide) hN0)
      have h329 := h254
      rw [iN328] at h329
      have hw330 := z_ybw (z_kpL11 h329 (X.2.f hag.1 (by decide) e11_325) h267 (z_ixm (B := z_sp m) h262.1 (by omega) (by omega) h264 (by omega)) (X.2.lg k11_326 (by decide)))
      have i331 : x318.toInt.toNat = b5.toInt.toNat + 1 := by omega
      have ia332 := z_rfe h1 (X.2.f k0 (by decide) (hbk _ _ _ _ _ k0).2.2.2.2.2.2.2.2.2)
      have h333 := h277
      rw [ia332] at h333
      have hu334 := hlf b5.toInt.toNat (by omega)
      rw [show z_Lg M0 (a0 + 10) b5.toInt.toNat = y276 from (congrFun (X.2.lg (hbk.k10 hW0 k0) (by decide)) _).symm.trans h333] at hu334
      have iN335 := z_rfe h250 (X.2.f k0 (by decide) hN0)
      have h336 := h254
      rw [iN335] at h336
      have hw337 := z_ybw (z_kpL11 h336 (X.2.f hag.1 (by decide) e11_325) h284 (z_ixm (B := z_sp m) h279.1 (by omega) (by omega) h281 (by omega)) (X.2.lg k11_326 (by decide)))
      have i338 : x318.toInt.toNat = b5.toInt.toNat + 1 := by omega
      exact ih M x274 x316 x318 X ⟨by omega, by omega⟩ ⟨by omega, by omega⟩ ⟨by omega, by omega⟩ (by omega) (by rw [i331]; exact z_cfN hY ((z_imY hu322 f11_327 hw330 (by omega) (by omega) h270).mp (by omega)) (by rw [h275])) (by rw [i338]; exact z_cfY hN (Classical.byContradiction fun hn => absurd ((z_imN hu334 f11_327 hw337 (by omega) (by omega) h287 h289).mpr hn) (by omega)) (by omega)) (by omega)
    refine z_xP zt91 21 57 [some (.ref a0), some (.int p1), some (.int p2), some (.int b3), some (.int b4), some (.int b5)] [.int 1, .int b3] rfl rfl ?_
    refine z_xI zt91 23 rfl rfl (fun (x339 : Int32) (h340 : x339.toInt = 1) => ?_) (z_or1i (by omega))
    refine z_xP zt91 24 62 [some (.ref a0), some (.int p1), some (.int p2), some (.int x339), some (.int b4), some (.int b5)] [.ref a0, .int b4] rfl rfl ?_
    refine z_xgv zt91 25 rfl zo91 zzf3_49 X k0 (by decide) h1 ?_
    refine z_xP zt91 26 67 [some (.ref a0), some (.int p1), some (.int p2), some (.int x339), some (.int b4), some (.int b5)] [.int b5, .ref a2, .int b4] rfl rfl ?_
    refine z_xllv zt91 27 rfl X k3 (by decide) (by omega) (by omega) (fun (y341 : Int64) h342 => ?_)
    refine z_xP zt91 28 69 [some (.ref a0), some (.int p1), some (.int p2), some (.int x339), some (.int b4), some (.int b5)] [.ref a0, .long y341, .int b4] rfl rfl ?_
    refine z_xgv zt91 29 rfl zo91 zzf3_39 X k0 (by decide) h250 ?_
    refine z_xP zt91 30 76 [some (.ref a0), some (.int p1), some (.int p2), some (.int x339), some (.int b4), some (.int b5)] [.int b5, .int 0, .int p1, .ref a251, .long y341, .int b4] rfl rfl ?_
    refine z_xcV (vs := [.ref a251, .int p1, .int 0, .int b5]) (r := [.long y341, .int b4]) (L2 := [some (.ref a251), some (.int p1), some (.int 0), some (.int b5), none, none]) zt91 31 rfl zo91 zzcV3_115 (Or.inl rfl) rfl X k252 rfl rfl rfl (Nat.le_of_ble_eq_true rfl) zzm92 (Nat.le_of_ble_eq_true rfl) rfl ?_
    refine z_xP zt92 0 1 [some (.ref a251), some (.int p1), some (.int 0), some (.int b5), none, none] [.ref a251] rfl rfl ?_
    refine z_xgv zt92 1 rfl zo92 zzf2_66 X k252 (by decide) h254 ?_
    refine z_xP zt92 2 6 [some (.ref a251), some (.int p1), some (.int 0), some (.int b5), none, none] [.ref a251, .int p1, .ref a255] rfl rfl ?_
    refine z_xgv zt92 3 rfl zo92 zzf2_63 X k252 (by decide) h257 ?_
    refine z_xI zt92 4 rfl rfl (fun (x343 : Int32) (h344 : x343.toInt = p1.toInt * x258.toInt ∧ 0 ≤ x343.toInt ∧ x343.toInt ≤ 144) => ?_) (z_pMulB (a := 9) (b := 16) rfl rfl (by omega) (by omega) (by omega) (by omega) (by decide) (by decide))
    refine z_xP zt92 5 11 [some (.ref a251), some (.int p1), some (.int 0), some (.int b5), none, none] [.int b5, .int x343, .ref a255] rfl rfl ?_
    refine z_xI zt92 6 rfl rfl (fun (x345 : Int32) (h346 : x345.toInt = x343.toInt + b5.toInt) => ?_) (z_pAdd rfl rfl (by omega) (by omega))
    have h347 := z_nlx (p := x343.toInt) (x := p1.toInt) (y := x258.toInt) (s := b5.toInt) (z := x345.toInt) (A := q) (B := z_sp m) (by omega) (by omega) (by omega) (by omega) (by omega) (by omega) (by omega)
    refine z_xllv zt92 7 rfl X k256 (by decide) h347.1 h347.2 (fun (y348 : Int64) h349 => ?_)
    refine z_xP zt92 8 16 [some (.ref a251), some (.int p1), some (.int 0), some (.int b5), some (.long y348), none] [.int 0] rfl rfl ?_
    refine z_xZ zt92 9 rfl rfl (fun (h350 : (0 : Int) = 0) => ?_) (fun (h350 : (0 : Int) ≠ 0) => absurd h350 (by omega))
    refine z_xP zt92 11 26 [some (.ref a251), some (.int p1), some (.int 0), some (.int b5), some (.long y348), none] [.long y348] rfl rfl ?_
    refine z_xl2 zt92 12 rfl zo92 zkl2_38 ?_
    refine z_xL zt92 13 rfl rfl (fun (y351 : Int64) (h352 : y351 = y348 ^^^ (-1)) => ?_) (rfl)
    refine z_xrl zt92 14 rfl zzr92 ?_
    show z_ev (d + 1) 91 79 [some (.ref a0), some (.int p1), some (.int p2), some (.int x339), some (.int b4), some (.int b5)] [.long y351, .long y341, .int b4] M _
    refine z_xL zt91 32 rfl rfl (fun (y353 : Int64) (h354 : y353 = y341 &&& y351) => ?_) (rfl)
    refine z_xP zt91 33 81 [some (.ref a0), some (.int p1), some (.int p2), some (.int x339), some (.int b4), some (.int b5)] [.long 0, .long y353, .int b4] rfl rfl ?_
    refine z_xI zt91 34 rfl rfl (fun (x355 : Int32) (h356 : (x355.toInt < 0 ∧ y353.toInt < 0) ∨ (x355.toInt = 0 ∧ y353.toInt = 0) ∨ (0 < x355.toInt ∧ 0 < y353.toInt)) => ?_) (z_qCmp rfl rfl)
    refine z_xZ zt91 35 rfl rfl (fun (h357 : x355.toInt = 0) => ?_) (fun (h357 : x355.toInt ≠ 0) => ?_)
    · skip
      refine z_xP zt91 37 90 [some (.ref a0), some (.int p1), some (.int p2), some (.int x339), some (.int b4), some (.int b5)] [.int 0, .int b4] rfl rfl ?_
      refine z_xI zt91 38 rfl rfl (fun (x358 : Int32) (h359 : x358 = b4) => ?_) (Int32.or_zero)
      have eh359 := congrArg Int32.toInt h359
      refine z_xP zt91 39 93 [some (.ref a0), some (.int p1), some (.int p2), some (.int x339), some (.int x358), some (.int b5)] [] rfl rfl ?_
      refine z_xN zt91 40 rfl rfl (fun (x360 : Int32) (h361 : x360.toInt = b5.toInt + 1) => ?_) (z_pAdd rfl rfl (by omega) (by omega))
      show z_ev (d + 1) 91 96 [some (.ref a0), some (.int p1), some (.int p2), some (.int x339), some (.int x358), some (.int x360)] [] M _
      refine z_xP zt91 41 8 [some (.ref a0), some (.int p1), some (.int p2), some (.int x339), some (.int x358), some (.int x360)] [] rfl rfl ?_
      have ia362 := z_rfe h1 (X.2.f k0 (by decide) (hbk _ _ _ _ _ k0).2.2.2.2.2.2.2.2.2)
      have h363 := h249
      rw [ia362] at h363
      have hu364 := hlf b5.toInt.toNat (by omega)
      rw [show z_Lg M0 (a0 + 10) b5.toInt.toNat = y248 from (congrFun (X.2.lg (hbk.k10 hW0 k0) (by decide)) _).symm.trans h363] at hu364
      obtain ⟨-, -, hm365, -, -, -, -, -, -, ⟨ya366, e11_367, k11_368, f11_369⟩⟩ := id hag
      have iN370 := z_rfe h250 (X.2.f k0 (by decide) hN0)
      have h371 := h254
      rw [iN370] at h371
      have hw372 := z_ybw (z_kpL11 h371 (X.2.f hag.1 (by decide) e11_367) h267 (z_ixm (B := z_sp m) h262.1 (by omega) (by omega) h264 (by omega)) (X.2.lg k11_368 (by decide)))
      have i373 : x360.toInt.toNat = b5.toInt.toNat + 1 := by omega
      have ia374 := z_rfe h1 (X.2.f k0 (by decide) (hbk _ _ _ _ _ k0).2.2.2.2.2.2.2.2.2)
      have h375 := h342
      rw [ia374] at h375
      have hu376 := hlf b5.toInt.toNat (by omega)
      rw [show z_Lg M0 (a0 + 10) b5.toInt.toNat = y341 from (congrFun (X.2.lg (hbk.k10 hW0 k0) (by decide)) _).symm.trans h375] at hu376
      have iN377 := z_rfe h250 (X.2.f k0 (by decide) hN0)
      have h378 := h254
      rw [iN377] at h378
      have hw379 := z_ybw (z_kpL11 h378 (X.2.f hag.1 (by decide) e11_367) h349 (z_ixm (B := z_sp m) h344.1 (by omega) (by omega) h346 (by omega)) (X.2.lg k11_368 (by decide)))
      have i380 : x360.toInt.toNat = b5.toInt.toNat + 1 := by omega
      exact ih M x339 x358 x360 X ⟨by omega, by omega⟩ ⟨by omega, by omega⟩ ⟨by omega, by omega⟩ (by omega) (by rw [i373]; exact z_cfY hY (Classical.byContradiction fun hn => absurd ((z_imY hu364 f11_369 hw372 (by omega) (by omega) h270).mpr hn) (by omega)) (by omega)) (by rw [i380]; exact z_cfN hN ((z_imN hu376 f11_369 hw379 (by omega) (by omega) h352 h354).mp (by omega)) (by rw [h359])) (by omega)
    refine z_xP zt91 36 90 [some (.ref a0), some (.int p1), some (.int p2), some (.int x339), some (.int b4), some (.int b5)] [.int 1, .int b4] rfl rfl ?_
    refine z_xI zt91 38 rfl rfl (fun (x381 : Int32) (h382 : x381.toInt = 1) => ?_) (z_or1i (by omega))
    refine z_xP zt91 39 93 [some (.ref a0), some (.int p1), some (.int p2), some (.int x339), some (.int x381), some (.int b5)] [] rfl rfl ?_
    refine z_xN zt91 40 rfl rfl (fun (x383 : Int32) (h384 : x383.toInt = b5.toInt + 1) => ?_) (z_pAdd rfl rfl (by omega) (by omega))
    show z_ev (d + 1) 91 96 [some (.ref a0), some (.int p1), some (.int p2), some (.int x339), some (.int x381), some (.int x383)] [] M _
    refine z_xP zt91 41 8 [some (.ref a0), some (.int p1), some (.int p2), some (.int x339), some (.int x381), some (.int x383)] [] rfl rfl ?_
    have ia385 := z_rfe h1 (X.2.f k0 (by decide) (hbk _ _ _ _ _ k0).2.2.2.2.2.2.2.2.2)
    have h386 := h249
    rw [ia385] at h386
    have hu387 := hlf b5.toInt.toNat (by omega)
    rw [show z_Lg M0 (a0 + 10) b5.toInt.toNat = y248 from (congrFun (X.2.lg (hbk.k10 hW0 k0) (by decide)) _).symm.trans h386] at hu387
    obtain ⟨-, -, hm388, -, -, -, -, -, -, ⟨ya389, e11_390, k11_391, f11_392⟩⟩ := id hag
    have iN393 := z_rfe h250 (X.2.f k0 (by decide) hN0)
    have h394 := h254
    rw [iN393] at h394
    have hw395 := z_ybw (z_kpL11 h394 (X.2.f hag.1 (by decide) e11_390) h267 (z_ixm (B := z_sp m) h262.1 (by omega) (by omega) h264 (by omega)) (X.2.lg k11_391 (by decide)))
    have i396 : x383.toInt.toNat = b5.toInt.toNat + 1 := by omega
    have ia397 := z_rfe h1 (X.2.f k0 (by decide) (hbk _ _ _ _ _ k0).2.2.2.2.2.2.2.2.2)
    have h398 := h342
    rw [ia397] at h398
    have hu399 := hlf b5.toInt.toNat (by omega)
    rw [show z_Lg M0 (a0 + 10) b5.toInt.toNat = y341 from (congrFun (X.2.lg (hbk.k10 hW0 k0) (by decide)) _).symm.trans h398] at hu399
    have iN400 := z_rfe h250 (X.2.f k0 (by decide) hN0)
    have h401 := h254
    rw [iN400] at h401
    have hw402 := z_ybw (z_kpL11 h401 (X.2.f hag.1 (by decide) e11_390) h349 (z_ixm (B := z_sp m) h344.1 (by omega) (by omega) h346 (by omega)) (X.2.lg k11_391 (by decide)))
    have i403 : x383.toInt.toNat = b5.toInt.toNat + 1 := by omega
    exact ih M x339 x381 x383 X ⟨by omega, by omega⟩ ⟨by omega, by omega⟩ ⟨by omega, by omega⟩ (by omega) (by rw [i396]; exact z_cfY hY (Classical.byContradiction fun hn => absurd ((z_imY hu387 f11_392 hw395 (by omega) (by omega) h270).mpr hn) (by omega)) (by omega)) (by rw [i403]; exact z_cfY hN (Classical.byContradiction fun hn => absurd ((z_imN hu399 f11_392 hw402 (by omega) (by omega) h352 h354).mpr hn) (by omega)) (by omega)) (by omega)
theorem zUC91 {T : List zK} {d : Nat} {K : Option Value → zH → Prop} {a0 : Nat} {q : Nat} {t : Nat} {m : Nat} {J : Nat} {p1 : Int32} {p2 : Int32} {N t2 pr en uy un : Nat} {B : Nat → Nat} {M0 : zH} (hW : z_W M0 T) (k0 : T[a0]? = some (.inl (3, q, t, m, J))) (u1 : 0 ≤ p1.toInt ∧ p1.toInt ≤ 9) (u2 : 0 ≤ p2.toInt ∧ p2.toInt ≤ 1) (hb0 : p1.toInt < (q : Int)) (hW0 : z_W M0 T) (hbk : z_blk T M0) (hN0 : z_F M0 a0 0 = some (.ref N)) (hag : z_AGO T M0 N q t2 m pr en B) (hlf : z_lft B q uy un (z_sp m) (z_Lg M0 (a0 + 10))) (kk : ∀ (x : Int32) (M1 : zH), z_X T zw91 M0 M1 → 0 ≤ x.toInt → x.toInt ≤ 1 → ((x.toInt = 1 ∧ z_tuY B q (z_Ar M0 (a0 + 4) p1.toNatClampNeg).toInt (p2.toInt ≠ 0) uy un p1.toInt.toNat) ∨ (x.toInt = 0 ∧ ¬ z_tuY B q (z_Ar M0 (a0 + 4) p1.toNatClampNeg).toInt (p2.toInt ≠ 0) uy un p1.toInt.toNat)) → K (some (.int x)) M1) : z_ev (d + 1) 91 0 [some (.ref a0), some (.int p1), some (.int p2), none, none, none] [] M0 K := by
  have X : z_X T zw91 M0 M0 := .refl hW
  have g0 := X.1.p3 k0
  refine z_xP zt91 0 8 [some (.ref a0), some (.int p1), some (.int p2), some (.int 0), some (.int 0), some (.int 0)] [] rfl rfl ?_
  have q0 : ((0 : Int32)).toInt = 0 := rfl
  exact (zUB91 k0 u1 u2 hb0 hW0 hbk hN0 hag hlf kk 34) M0 (0) (0) (0) X (by decide) (by decide) (by decide) (by omega) (z_cf0 rfl rfl) (z_cf0 rfl rfl) (by omega)
theorem zUB90 {T : List zK} {d : Nat} {K : Option Value → zH → Prop} {a0 : Nat} {q : Nat} {t : Nat} {m : Nat} {J : Nat} {p1 : Int32} {N t2 pr en : Nat} {B : Nat → Nat} {M0 : zH} (k0 : T[a0]? = some (.inl (3, q, t, m, J))) (hW0 : z_W M0 T) (hbk : z_blk T M0) (hN0 : z_F M0 a0 0 = some (.ref N)) (hag : z_AGO T M0 N q t2 m pr en B) (hp1 : 0 ≤ p1.toInt) (kk : ∀ (x : Int32) (M1 : zH), z_X T zw90 M0 M1 → 0 ≤ x.toInt → x.toInt ≤ 1048575 → z_twI B q (fun k => (z_Ar M0 (a0 + 4) k).toInt) (fun k => p1.toInt.toNat / 2 ^ k % 2 = 1) (fun i => (z_Ar M0 (a0 + 7) i).toInt.toNat) q x.toInt → K (some (.int x)) M1) : ∀ n : Nat, (∀ (M : zH) (b2 : Int32), z_X T zw90 M0 M → 0 ≤ b2.toInt ∧ b2.toInt ≤ 16 → b2.toInt ≤ ((z_sp m : Nat) : Int) → z_lft B q 0 0 b2.toInt.toNat (z_Lg M (a0 + 10)) → ((((0) * 4 + 2) * 17 + (16 - b2.toInt)) * 4 + 3) * 17 + (0) < (n : Int) → z_ev (d + 2) 90 2 [some (.ref a0), some (.int p1), some (.int b2), none, none, none, none] [] M K) ∧ (∀ (M : zH) (b2 : Int32) (b3 : Int32) (o4 : Option Value) (o5 : Option Value) (o6 : Option Value), z_X T zw90 M0 M → 0 ≤ b2.toInt ∧ b2.toInt ≤ 1048575 → 0 ≤ b3.toInt ∧ b3.toInt ≤ 10 → b3.toInt ≤ (q : Int) → z_twI B q (fun k => (z_Ar M0 (a0 + 4) k).toInt) (fun k => p1.toInt.toNat / 2 ^ k % 2 = 1) (fun i => (z_Ar M0 (a0 + 7) i).toInt.toNat) b3.toInt.toNat b2.toInt → z_lft B q (b2.toInt.toNat % 1024) (b2.toInt.toNat / 1024) (z_sp m) (z_Lg M (a0 + 10)) → ((((0) * 4 + 1) * 17 + (10 - b3.toInt)) * 4 + 3) * 17 + (0) < (n : Int) → z_ev (d + 2) 90 35 [some (.ref a0), some (.int p1), some (.int b2), some (.int b3), o4, o5, o6] [] M K) ∧ (∀ (M : zH) (b2 : Int32) (b3 : Int32) (b4 : Int32) (b5 : Int32) (b6 : Int32), z_X T zw90 M0 M → 0 ≤ b2.toInt ∧ b2.toInt ≤ 1048575 → 0 ≤ b3.toInt ∧ b3.toInt ≤ 9 → 0 ≤ b4.toInt ∧ b4.toInt ≤ 9 → 0 ≤ b5.toInt ∧ b5.toInt ≤ 1 → 0 ≤ b6.toInt ∧ b6.toInt ≤ 16 → b4.toInt < ((q : Nat) : Int) → b6.toInt ≤ ((z_sp m : Nat) : Int) → b3.toInt < (q : Int) → 0 ≤ b4.toInt → b4.toInt < (q : Int) → (z_Ar M0 (a0 + 7) b3.toInt.toNat).toInt = b4.toInt → ((b5.toInt = 1 ∧ z_tuY B q ((fun k => (z_Ar M0 (a0 + 4) k).toInt) b4.toInt.toNat) ((fun k => p1.toInt.toNat / 2 ^ k % 2 = 1) b4.toInt.toNat) (b2.toInt.toNat % 1024) (b2.toInt.toNat / 1024) b4.toInt.toNat) ∨ (b5.toInt = 0 ∧ ¬ z_tuY B q ((fun k => (z_Ar M0 (a0 + 4) k).toInt) b4.toInt.toNat) ((fun k => p1.toInt.toNat / 2 ^ k % 2 = 1) b4.toInt.toNat) (b2.toInt.toNat % 1024) (b2.toInt.toNat / 1024) b4.toInt.toNat)) → z_twI B q (fun k => (z_Ar M0 (a0 + 4) k).toInt) (fun k => p1.toInt.toNat / 2 ^ k % 2 = 1) (fun i => (z_Ar M0 (a0 + 7) i).toInt.toNat) b3.toInt.toNat b2.toInt → z_lft B q (if b5.toInt = 1 then (b2.toInt.toNat % 1024) ||| 2 ^ b4.toInt.toNat else (b2.toInt.toNat % 1024)) (if b5.toInt = 1 then (b2.toInt.toNat / 1024) else (b2.toInt.toNat / 1024) ||| 2 ^ b4.toInt.toNat) b6.toInt.toNat (z_Lg M (a0 + 10)) → (∀ b, b6.toInt.toNat ≤ b → b < z_sp m → ∀ i, i < 64 → ((z_Lg M (a0 + 10) b).toBitVec.getLsbD i = true ↔ ∃ a, a < 2 ^ q ∧ B a = 0 ∧ z_lc B a = 64 * b + i ∧ z_has a (b2.toInt.toNat % 1024) (b2.toInt.toNat / 1024))) → ((((0) * 4 + 1) * 17 + (10 - b3.toInt)) * 4 + 0) * 17 + (16 - b6.toInt) < (n : Int) → z_ev (d + 2) 90 79 [some (.ref a0), some (.int p1), some (.int b2), some (.int b3), some (.int b4), some (.int b5), some (.int b6)] [] M K) := by
  intro n
  induction n with
  | zero => exact ⟨(by intros; exfalso; omega), (by intros; exfalso; omega), (by intros; exfalso; omega)⟩
  | succ n ih =>
    refine ⟨?_, ?_, ?_⟩
    · skip
      intro M b2 X hh0 hh1 hW1 hE
      have g0 := X.1.p3 k0
      refine z_xP zt90 1 4 [some (.ref a0), some (.int p1), some (.int b2), none, none, none, none] [.ref a0, .int b2] rfl rfl ?_
      refine z_xgR (κ := .inr (209, 1, z_sp m, 0, 0)) zt90 2 rfl zo90 zzf3_49 X k0 (by decide) (by decide) rfl (fun (a2 : Nat) h1 k3 => ?_)
      refine z_xln zt90 3 rfl X k3 (by decide) (by omega) (fun (x4 : Int32) (h5 : x4.toInt = ((z_sp m : Nat) : Int)) => ?_)
      refine z_xJ zt90 4 rfl rfl (fun (h6 : x4.toInt ≤ b2.toInt) => ?_) (fun (h6 : b2.toInt < x4.toInt) => ?_)
      · skip
        refine z_xP zt90 14 35 [some (.ref a0), some (.int p1), some (.int 0), some (.int 0), none, none, none] [] rfl rfl ?_
        have q0 : ((0 : Int32)).toInt = 0 := rfl
        exact ih.2.1 M (0) (0) none none none X (by decide) (by decide) (by omega) (z_tw0 rfl rfl) (z_lft1 rfl hW1 (by omega)) (by omega)
      refine z_xP zt90 5 12 [some (.ref a0), some (.int p1), some (.int b2), none, none, none, none] [.ref a0] rfl rfl ?_
      refine z_xgv zt90 6 rfl zo90 zzf3_49 X k0 (by decide) h1 ?_
      refine z_xP zt90 7 17 [some (.ref a0), some (.int p1), some (.int b2), none, none, none, none] [.ref a0, .int b2, .ref a2] rfl rfl ?_
      refine z_xgR (κ := .inl (2, q, t, m, 0)) zt90 8 rfl zo90 zzf3_39 X k0 (by decide) (by decide) rfl (fun (a8 : Nat) h7 k9 => ?_)
      have g10 := X.1.p2 k9
      refine z_xP zt90 9 21 [some (.ref a0), some (.int p1), some (.int b2), none, none, none, none] [.int b2, .ref a8, .int b2, .ref a2] rfl rfl ?_
      refine z_xcV (vs := [.ref a8, .int b2]) (r := [.int b2, .ref a2]) (L2 := [some (.ref a8), some (.int b2), none]) zt90 10 rfl zo90 zzcV3_107 (Or.inl rfl) rfl X k9 rfl rfl rfl (Nat.le_of_ble_eq_true rfl) zzm46 (Nat.le_of_ble_eq_true rfl) rfl ?_
      refine z_xP zt46 0 1 [some (.ref a8), some (.int b2), none] [.ref a8] rfl rfl ?_
      refine z_xgR (κ := .inr (102, 0, m, 0, 1023)) zt46 1 rfl zo46 zzf2_60 X k9 (by decide) (by decide) rfl (fun (a12 : Nat) h11 k13 => ?_)
      refine z_xln zt46 2 rfl X k13 (by decide) (by omega) (fun (x14 : Int32) (h15 : x14.toInt = ((m : Nat) : Int)) => ?_)
      refine z_xP zt46 3 8 [some (.ref a8), some (.int b2), none] [.int 6, .int b2, .int x14] rfl rfl ?_
      refine z_xI zt46 4 rfl rfl (fun (x16 : Int32) (h17 : x16.toInt = b2.toInt * 64) => ?_) (z_pShl 6 rfl rfl (by decide) (by decide) (by omega) rfl (by omega))
      refine z_xI zt46 5 rfl rfl (fun (x18 : Int32) (h19 : x18.toInt = x14.toInt - x16.toInt) => ?_) (z_pSub rfl rfl (by omega) (by omega))
      refine z_xP zt46 6 14 [some (.ref a8), some (.int b2), some (.int x18)] [.int 64, .int x18] rfl rfl ?_
      refine z_xJ zt46 7 rfl rfl (fun (h20 : x18.toInt < 64) => ?_) (fun (h20 : 64 ≤ x18.toInt) => ?_)
      · skip
        refine z_xP zt46 10 25 [some (.ref a8), some (.int b2), some (.int x18)] [.int x18, .long 1] rfl rfl ?_
        refine z_xL zt46 11 rfl rfl (fun (y21 : Int64) (h22 : y21 = (1 : Int64) <<< (x18.toInt64 &&& 63)) => ?_) (rfl)
        refine z_xP zt46 12 27 [some (.ref a8), some (.int b2), some (.int x18)] [.long 1, .long y21] rfl rfl ?_
        refine z_xL zt46 13 rfl rfl (fun (y23 : Int64) (h24 : y23 = y21 - 1) => ?_) (rfl)
        refine z_xrl zt46 14 rfl zzr46 ?_
        show z_ev (d + 2) 90 24 [some (.ref a0), some (.int p1), some (.int b2), none, none, none, none] [.long y23, .int b2, .ref a2] M _
        refine z_xlsv zt90 11 rfl X k3 (by decide) (X.1.g4 k3 (by decide)) (by omega) (by omega) (by decide) (fun M25 X26 e27 h28 => ?_)
        have h29 := (e27.f k0 (by decide) h1)
        have ia30 := z_rfe h29 (X26.2.f k0 (by decide) (hbk _ _ _ _ _ k0).2.2.2.2.2.2.2.2.2)
        rw [ia30] at h28
        refine z_xN zt90 12 rfl rfl (fun (x31 : Int32) (h32 : x31.toInt = b2.toInt + 1) => ?_) (z_pAdd rfl rfl (by omega) (by omega))
        show z_ev (d + 2) 90 28 [some (.ref a0), some (.int p1), some (.int x31), none, none, none, none] [] M25 _
        refine z_xP zt90 13 2 [some (.ref a0), some (.int p1), some (.int x31), none, none, none, none] [] rfl rfl ?_
        have hm34 := hag.2.2.1
        have i33 : x31.toInt.toNat = b2.toInt.toNat + 1 := by omega
        exact ih.1 M25 x31 X26 ⟨by omega, by omega⟩ (by omega) (by rw [i33]; exact z_lftS hW1 hm34 (z_gv0b (Q := fun _ _ => True) (y := 0) (n := 0) (x0 := 0) (x := x18) (m := m) (s := b2.toInt.toNat) rfl (by omega) (by unfold z_sp at *; omega) (by omega) h22 h24) h28 rfl) (by omega)
      refine z_xl2 zt46 8 rfl zo46 zkl2_38 ?_
      refine z_xP zt46 9 28 [some (.ref a8), some (.int b2), some (.int x18)] [.long (-1)] rfl rfl ?_
      refine z_xrl zt46 14 rfl zzr46 ?_
      show z_ev (d + 2) 90 24 [some (.ref a0), some (.int p1), some (.int b2), none, none, none, none] [.long (-1), .int b2, .ref a2] M _
      refine z_xlsv zt90 11 rfl X k3 (by decide) (X.1.g4 k3 (by decide)) (by omega) (by omega) (by decide) (fun M35 X36 e37 h38 => ?_)
      have h39 := (e37.f k0 (by decide) h1)
      have ia40 := z_rfe h39 (X36.2.f k0 (by decide) (hbk _ _ _ _ _ k0).2.2.2.2.2.2.2.2.2)
      rw [ia40] at h38
      refine z_xN zt90 12 rfl rfl (fun (x41 : Int32) (h42 : x41.toInt = b2.toInt + 1) => ?_) (z_pAdd rfl rfl (by omega) (by omega))
      show z_ev (d + 2) 90 28 [some (.ref a0), some (.int p1), some (.int x41), none, none, none, none] [] M35 _
      refine z_xP zt90 13 2 [some (.ref a0), some (.int p1), some (.int x41), none, none, none, none] [] rfl rfl ?_
      have hm44 := hag.2.2.1
      have i43 : x41.toInt.toNat = b2.toInt.toNat + 1 := by omega
      exact ih.1 M35 x41 X36 ⟨by omega, by omega⟩ (by omega) (by rw [i43]; exact z_lftS hW1 hm44 (z_gv0a (Q := fun _ _ => True) (y := 0) (n := 0) (x0 := 0) (m := m) (s := b2.toInt.toNat) rfl (by omega)) h38 rfl) (by omega)
    · skip
      intro M b2 b3 o4 o5 o6 X hh0 hh1 hh2 hd hlf hE
      have g0 := X.1.p3 k0
      refine z_xP zt90 15 37 [some (.ref a0), some (.int p1), some (.int b2), some (.int b3), o4, o5, o6] [.ref a0, .int b3] rfl rfl ?_
      refine z_xgR (κ := .inl (2, q, t, m, 0)) zt90 16 rfl zo90 zzf3_39 X k0 (by decide) (by decide) rfl (fun (a2 : Nat) h1 k3 => ?_)
      have g4 := X.1.p2 k3
      refine z_xgI zt90 17 rfl zo90 zzf3_63 X k3 (by decide) (by decide) rfl (fun (x6 : Int32) h5 (h7 : (q : Int) ≤ x6.toInt) (h8 : x6.toInt ≤ (q : Int)) => ?_)
      refine z_xJ zt90 18 rfl rfl (fun (h9 : x6.toInt ≤ b3.toInt) => ?_) (fun (h9 : b3.toInt < x6.toInt) => ?_)
      · skip
        refine z_xP zt90 60 147 [some (.ref a0), some (.int p1), some (.int b2), some (.int b3), o4, o5, o6] [.int b2] rfl rfl ?_
        have i10 : b3.toInt.toNat = q := by omega
        exact z_xri zt90 61 rfl zzr90 (kk b2 M X (by omega) (by omega) (by have h := hd; rw [i10] at h; exact h))
      refine z_xP zt90 19 47 [some (.ref a0), some (.int p1), some (.int b2), some (.int b3), o4, o5, o6] [.ref a0] rfl rfl ?_
      refine z_xgR (κ := .inr (208, 0, 10, 0, ((q : Nat) : Int) - 1)) zt90 20 rfl zo90 zzf3_30 X k0 (by decide) (by decide) rfl (fun (a12 : Nat) h11 k13 => ?_)
      refine z_xP zt90 21 51 [some (.ref a0), some (.int p1), some (.int b2), some (.int b3), o4, o5, o6] [.int b3, .ref a12] rfl rfl ?_
      refine z_xil zt90 22 rfl X k13 (by decide) (by omega) (by omega) (fun (x14 : Int32) h15 (h16 : 0 ≤ x14.toInt) (h17 : x14.toInt ≤ ((q : Nat) : Int) - 1) => ?_)
      refine z_xP zt90 23 60 [some (.ref a0), some (.int p1), some (.int b2), some (.int b3), some (.int x14), o5, o6] [.int x14, .int p1, .int x14, .ref a0] rfl rfl ?_
      have h18 := z_b32 p1
      refine z_xI zt90 24 rfl rfl (fun (x19 : Int32) (h20 : x19 = p1 >>> (x14 &&& 31)) => ?_) (rfl)
      refine z_xP zt90 25 62 [some (.ref a0), some (.int p1), some (.int b2), some (.int b3), some (.int x14), o5, o6] [.int 1, .int x19, .int x14, .ref a0] rfl rfl ?_
      refine z_xI zt90 26 rfl rfl (fun (x21 : Int32) (h22 : x21 = x19 &&& (1 : Int32) ∧ 0 ≤ x21.toInt ∧ x21.toInt ≤ 1) => ?_) (⟨rfl, z_pAnd rfl (by omega)⟩)
      refine z_xZ zt90 27 rfl rfl (fun (h23 : x21.toInt = 0) => ?_) (fun (h23 : x21.toInt ≠ 0) => ?_)
      · skip
        refine z_xP zt90 29 71 [some (.ref a0), some (.int p1), some (.int b2), some (.int b3), some (.int x14), o5, o6] [.int 0, .int x14, .ref a0] rfl rfl ?_
        refine z_xcV (vs := [.ref a0, .int x14, .int 0]) (r := []) (L2 := [some (.ref a0), some (.int x14), some (.int 0), none, none, none]) zt90 30 rfl zo90 zzcV3_111 (Or.inl rfl) rfl X k0 rfl rfl rfl (Nat.le_of_ble_eq_true rfl) zzm91 (Nat.le_of_ble_eq_true rfl) rfl ?_
        have q0 : ((0 : Int32)).toInt = 0 := rfl
        have q0 : ((0 : Int32)).toInt = 0 := rfl
        refine zUC91 X.1 k0 (by omega) (by decide) (by omega) X.1 (hbk.ke X.2 (by decide)) (X.2.f k0 (by decide) hN0) (hag.ke (fun _ _ h => h) X.2 (by decide)) hlf (fun x27 M24 X25 h28 h29 h26 => ?_)
        have X30 := X.go X25 (z_sb (by decide))
        show z_ev (d + 2) 90 74 [some (.ref a0), some (.int p1), some (.int b2), some (.int b3), some (.int x14), o5, o6] [.int x27] M24 _
        refine z_xP zt90 31 79 [some (.ref a0), some (.int p1), some (.int b2), some (.int b3), some (.int x14), some (.int x27), some (.int 0)] [] rfl rfl ?_
        have h32 := (X25.2.f k0 (by decide) h11)
        have ia33 := z_rfe h32 (X30.2.f k0 (by decide) (hbk _ _ _ _ _ k0).2.2.2.2.2.2.1)
        have h34 := h15
        rw [ia33] at h34
        have ho35 : z_Ar M0 (a0 + 7) b3.toInt.toNat = x14 := (congrFun (X.2.a (hbk.k7 hW0 k0) (by decide)) _).symm.trans h34
        have q0 : ((0 : Int32)).toInt = 0 := rfl
        have q0 : ((0 : Int32)).toInt = 0 := rfl
        exact ih.2.2 M24 b2 b3 x14 x27 (0) X30 ⟨by omega, by omega⟩ ⟨by omega, by omega⟩ ⟨by omega, by omega⟩ ⟨by omega, by omega⟩ (by decide) (by omega) (by omega) (by omega) (by omega) (by omega) (congrArg Int32.toInt ho35) (z_twB h26 (X.2.a (hbk.k4 hW0 k0) (by decide)) (z_opb h20 h22.1 (by omega) ⟨by omega, by omega⟩ (by omega))) hd (z_lft00 rfl) (fun b _ hb => by rw [X25.2.lg (hbk.k10 hW0 k0) (by decide)]; exact hlf b hb) (by omega)
      refine z_xP zt90 28 71 [some (.ref a0), some (.int p1), some (.int b2), some (.int b3), some (.int x14), o5, o6] [.int 1, .int x14, .ref a0] rfl rfl ?_
      refine z_xcV (vs := [.ref a0, .int x14, .int 1]) (r := []) (L2 := [some (.ref a0), some (.int x14), some (.int 1), none, none, none]) zt90 30 rfl zo90 zzcV3_111 (Or.inl rfl) rfl X k0 rfl rfl rfl (Nat.le_of_ble_eq_true rfl) zzm91 (Nat.le_of_ble_eq_true rfl) rfl ?_
      have q1 : ((1 : Int32)).toInt = 1 := rfl
      have q1 : ((1 : Int32)).toInt = 1 := rfl
      refine zUC91 X.1 k0 (by omega) (by decide) (by omega) X.1 (hbk.ke X.2 (by decide)) (X.2.f k0 (by decide) hN0) (hag.ke (fun _ _ h => h) X.2 (by decide)) hlf (fun x39 M36 X37 h40 h41 h38 => ?_)
      have X42 := X.go X37 (z_sb (by decide))
      show z_ev (d + 2) 90 74 [some (.ref a0), some (.int p1), some (.int b2), some (.int b3), some (.int x14), o5, o6] [.int x39] M36 _
      refine z_xP zt90 31 79 [some (.ref a0), some (.int p1), some (.int b2), some (.int b3), some (.int x14), some (.int x39), some (.int 0)] [] rfl rfl ?_
      have h44 := (X37.2.f k0 (by decide) h11)
      have ia45 := z_rfe h44 (X42.2.f k0 (by decide) (hbk _ _ _ _ _ k0).2.2.2.2.2.2.1)
      have h46 := h15
      rw [ia45] at h46
      have ho47 : z_Ar M0 (a0 + 7) b3.toInt.toNat = x14 := (congrFun (X.2.a (hbk.k7 hW0 k0) (by decide)) _).symm.trans h46
      have q1 : ((1 : Int32)).toInt = 1 := rfl
      have q0 : ((0 : Int32)).toInt = 0 := rfl
      exact ih.2.2 M36 b2 b3 x14 x39 (0) X42 ⟨by omega, by omega⟩ ⟨by omega, by omega⟩ ⟨by omega, by omega⟩ ⟨by omega, by omega⟩ (by decide) (by omega) (by omega) (by omega) (by omega) (by omega) (congrArg Int32.toInt ho47) (z_twB h38 (X.2.a (hbk.k4 hW0 k0) (by decide)) (z_opb h20 h22.1 (by omega) ⟨by omega, by omega⟩ (by omega))) hd (z_lft00 rfl) (fun b _ hb => by rw [X37.2.lg (hbk.k10 hW0 k0) (by decide)]; exact hlf b hb) (by omega)
    · skip
      intro M b2 b3 b4 b5 b6 X hh0 hh1 hh2 hh3 hh4 hh5 hh6 hh7 hh8 hh9 hq hR hd hA hB hE
      have g0 := X.1.p3 k0
      refine z_xP zt90 32 82 [some (.ref a0), some (.int p1), some (.int b2), some (.int b3), some (.int b4), some (.int b5), some (.int b6)] [.ref a0, .int b6] rfl rfl ?_
      refine z_xgR (κ := .inr (209, 1, z_sp m, 0, 0)) zt90 33 rfl zo90 zzf3_49 X k0 (by decide) (by decide) rfl (fun (a2 : Nat) h1 k3 => ?_)
      refine z_xln zt90 34 rfl X k3 (by decide) (by omega) (fun (x4 : Int32) (h5 : x4.toInt = ((z_sp m : Nat) : Int)) => ?_)
      refine z_xJ zt90 35 rfl rfl (fun (h6 : x4.toInt ≤ b6.toInt) => ?_) (fun (h6 : b6.toInt < x4.toInt) => ?_)
      · skip
        refine z_xP zt90 48 121 [some (.ref a0), some (.int p1), some (.int b2), some (.int b3), some (.int b4), some (.int b5), some (.int b6)] [.int b5, .int b2] rfl rfl ?_
        refine z_xZ zt90 49 rfl rfl (fun (h7 : b5.toInt = 0) => ?_) (fun (h7 : b5.toInt ≠ 0) => ?_)
        · skip
          refine z_xP zt90 53 136 [some (.ref a0), some (.int p1), some (.int b2), some (.int b3), some (.int b4), some (.int b5), some (.int b6)] [.int 10, .int b4, .int 1, .int b2] rfl rfl ?_
          refine z_xI zt90 54 rfl rfl (fun (x8 : Int32) (h9 : x8.toInt = b4.toInt + 10) => ?_) (z_pAdd rfl rfl (by omega) (by omega))
          refine z_xI zt90 55 rfl rfl (fun (x10 : Int32) (h11 : x10 = (1 : Int32) <<< (x8 &&& 31) ∧ 1 ≤ x10.toInt ∧ x10.toInt ≤ 524288) => ?_) (⟨rfl, z_pShlB (a := 1) (b := 19) (c := 524288) (r := 524288) rfl rfl (by omega) (by omega) (by omega) (by omega) (by decide) (by decide) (by decide) (by decide)⟩)
          refine z_xI zt90 56 rfl rfl (fun (x12 : Int32) (h13 : x12 = b2 ||| x10 ∧ 0 ≤ x12.toInt ∧ x12.toInt < 1048576 ∧ b2.toInt ≤ x12.toInt ∧ x10.toInt ≤ x12.toInt) => ?_) (⟨rfl, z_pOr 20 rfl rfl (by omega) (by omega) (by decide) (by omega) (by omega) (by decide)⟩)
          refine z_xP zt90 57 140 [some (.ref a0), some (.int p1), some (.int x12), some (.int b3), some (.int b4), some (.int b5), some (.int b6)] [] rfl rfl ?_
          refine z_xN zt90 58 rfl rfl (fun (x14 : Int32) (h15 : x14.toInt = b3.toInt + 1) => ?_) (z_pAdd rfl rfl (by omega) (by omega))
          show z_ev (d + 2) 90 143 [some (.ref a0), some (.int p1), some (.int x12), some (.int x14), some (.int b4), some (.int b5), some (.int b6)] [] M _
          refine z_xP zt90 59 35 [some (.ref a0), some (.int p1), some (.int x12), some (.int x14), some (.int b4), some (.int b5), some (.int b6)] [] rfl rfl ?_
          have i16 : x14.toInt.toNat = b3.toInt.toNat + 1 := by omega
          exact ih.2.1 M x12 x14 (some (.int b4)) (some (.int b5)) (some (.int b6)) X ⟨by omega, by omega⟩ ⟨by omega, by omega⟩ (by omega) (by rw [i16]; exact z_twN hd hq hR (by omega) (by omega) (by omega) h11.1 h13.1) (z_lfEN hA hd.1 (by omega) (by omega) (by omega) (by omega) h11.1 h13.1) (by omega)
        refine z_xP zt90 50 127 [some (.ref a0), some (.int p1), some (.int b2), some (.int b3), some (.int b4), some (.int b5), some (.int b6)] [.int b4, .int 1, .int b2] rfl rfl ?_
        refine z_xI zt90 51 rfl rfl (fun (x17 : Int32) (h18 : x17 = (1 : Int32) <<< (b4 &&& 31) ∧ 1 ≤ x17.toInt ∧ x17.toInt ≤ 512) => ?_) (⟨rfl, z_pShlB (a := 1) (b := 9) (c := 512) (r := 512) rfl rfl (by omega) (by omega) (by omega) (by omega) (by decide) (by decide) (by decide) (by decide)⟩)
        refine z_xP zt90 52 138 [some (.ref a0), some (.int p1), some (.int b2), some (.int b3), some (.int b4), some (.int b5), some (.int b6)] [.int x17, .int b2] rfl rfl ?_
        refine z_xI zt90 56 rfl rfl (fun (x19 : Int32) (h20 : x19 = b2 ||| x17 ∧ 0 ≤ x19.toInt ∧ x19.toInt < 1048576 ∧ b2.toInt ≤ x19.toInt ∧ x17.toInt ≤ x19.toInt) => ?_) (⟨rfl, z_pOr 20 rfl rfl (by omega) (by omega) (by decide) (by omega) (by omega) (by decide)⟩)
        refine z_xP zt90 57 140 [some (.ref a0), some (.int p1), some (.int x19), some (.int b3), some (.int b4), some (.int b5), some (.int b6)] [] rfl rfl ?_
        refine z_xN zt90 58 rfl rfl (fun (x21 : Int32) (h22 : x21.toInt = b3.toInt + 1) => ?_) (z_pAdd rfl rfl (by omega) (by omega))
        show z_ev (d + 2) 90 143 [some (.ref a0), some (.int p1), some (.int x19), some (.int x21), some (.int b4), some (.int b5), some (.int b6)] [] M _
        refine z_xP zt90 59 35 [some (.ref a0), some (.int p1), some (.int x19), some (.int x21), some (.int b4), some (.int b5), some (.int b6)] [] rfl rfl ?_
        have i23 : x21.toInt.toNat = b3.toInt.toNat + 1 := by omega
        exact ih.2.1 M x19 x21 (some (.int b4)) (some (.int b5)) (some (.int b6)) X ⟨by omega, by omega⟩ ⟨by omega, by omega⟩ (by omega) (by rw [i23]; exact z_twY hd hq hR (by omega) (by omega) (by omega) h18.1 h20.1) (z_lfEY hA hd.1 (by omega) (by omega) (by omega) (by omega) h18.1 h20.1) (by omega)
      refine z_xP zt90 36 90 [some (.ref a0), some (.int p1), some (.int b2), some (.int b3), some (.int b4), some (.int b5), some (.int b6)] [.ref a0] rfl rfl ?_
      refine z_xgv zt90 37 rfl zo90 zzf3_49 X k0 (by decide) h1 ?_
      refine z_xP zt90 38 96 [some (.ref a0), some (.int p1), some (.int b2), some (.int b3), some (.int b4), some (.int b5), some (.int b6)] [.int b6, .ref a2, .int b6, .ref a2] rfl rfl ?_
      refine z_xllv zt90 39 rfl X k3 (by decide) (by omega) (by omega) (fun (y24 : Int64) h25 => ?_)
      refine z_xP zt90 40 98 [some (.ref a0), some (.int p1), some (.int b2), some (.int b3), some (.int b4), some (.int b5), some (.int b6)] [.ref a0, .long y24, .int b6, .ref a2] rfl rfl ?_
      refine z_xgR (κ := .inl (2, q, t, m, 0)) zt90 41 rfl zo90 zzf3_39 X k0 (by decide) (by decide) rfl (fun (a27 : Nat) h26 k28 => ?_)
      have g29 := X.1.p2 k28
      refine z_xP zt90 42 107 [some (.ref a0), some (.int p1), some (.int b2), some (.int b3), some (.int b4), some (.int b5), some (.int b6)] [.int b6, .int b5, .int b4, .ref a27, .long y24, .int b6, .ref a2] rfl rfl ?_
      refine z_xcV (vs := [.ref a27, .int b4, .int b5, .int b6]) (r := [.long y24, .int b6, .ref a2]) (L2 := [some (.ref a27), some (.int b4), some (.int b5), some (.int b6), none, none]) zt90 43 rfl zo90 zzcV3_115 (Or.inl rfl) rfl X k28 rfl rfl rfl (Nat.le_of_ble_eq_true rfl) zzm92 (Nat.le_of_ble_eq_true rfl) rfl ?_
      refine z_xP zt92 0 1 [some (.ref a27), some (.int b4), some (.int b5), some (.int b6), none, none] [.ref a27] rfl rfl ?_
      refine z_xgR (κ := .inr (111, 1, q * z_sp m, 0, 0)) zt92 1 rfl zo92 zzf2_66 X k28 (by decide) (by decide) rfl (fun (a31 : Nat) h30 k32 => ?_)
      refine z_xP zt92 2 6 [some (.ref a27), some (.int b4), some (.int b5), some (.int b6), none, none] [.ref a27, .int b4, .ref a31] rfl rfl ?_
      refine z_xgI zt92 3 rfl zo92 zzf2_63 X k28 (by decide) (by decide) rfl (fun (x34 : Int32) h33 (h35 : ((z_sp m : Nat) : Int) ≤ x34.toInt) (h36 : x34.toInt ≤ ((z_sp m : Nat) : Int)) => ?_)
      refine z_xI zt92 4 rfl rfl (fun (x37 : Int32) (h38 : x37.toInt = b4.toInt * x34.toInt ∧ 0 ≤ x37.toInt ∧ x37.toInt ≤ 144) => ?_) (z_pMulB (a := 9) (b := 16) rfl rfl (by omega) (by omega) (by omega) (by omega) (by decide) (by decide))
      refine z_xP zt92 5 11 [some (.ref a27), some (.int b4), some (.int b5), some (.int b6), none, none] [.int b6, .int x37, .ref a31] rfl rfl ?_
      refine z_xI zt92 6 rfl rfl (fun (x39 : Int32) (h40 : x39.toInt = x37.toInt + b6.toInt) => ?_) (z_pAdd rfl rfl (by omega) (by omega))
      have h41 := z_nlx (p := x37.toInt) (x := b4.toInt) (y := x34.toInt) (s := b6.toInt) (z := x39.toInt) (A := q) (B := z_sp m) (by omega) (by omega) (by omega) (by omega) (by omega) (by omega) (by omega)
      refine z_xllv zt92 7 rfl X k32 (by decide) h41.1 h41.2 (fun (y42 : Int64) h43 => ?_)
      refine z_xP zt92 8 16 [some (.ref a27), some (.int b4), some (.int b5), some (.int b6), some (.long y42), none] [.int b5] rfl rfl ?_
      refine z_xZ zt92 9 rfl rfl (fun (h44 : b5.toInt = 0) => ?_) (fun (h44 : b5.toInt ≠ 0) => ?_)
      · skip
        refine z_xP zt92 11 26 [some (.ref a27), some (.int b4), some (.int b5), some (.int b6), some (.long y42), none] [.long y42] rfl rfl ?_
        refine z_xl2 zt92 12 rfl zo92 zkl2_38 ?_
        refine z_xL zt92 13 rfl rfl (fun (y45 : Int64) (h46 : y45 = y42 ^^^ (-1)) => ?_) (rfl)
        refine z_xrl zt92 14 rfl zzr92 ?_
        show z_ev (d + 2) 90 110 [some (.ref a0), some (.int p1), some (.int b2), some (.int b3), some (.int b4), some (.int b5), some (.int b6)] [.long y45, .long y24, .int b6, .ref a2] M _
        refine z_xL zt90 44 rfl rfl (fun (y47 : Int64) (h48 : y47 = y24 &&& y45) => ?_) (rfl)
        refine z_xlsv zt90 45 rfl X k3 (by decide) (X.1.g4 k3 (by decide)) (by omega) (by omega) (by decide) (fun M49 X50 e51 h52 => ?_)
        have h53 := (e51.f k0 (by decide) h1)
        have ia54 := z_rfe h53 (X50.2.f k0 (by decide) (hbk _ _ _ _ _ k0).2.2.2.2.2.2.2.2.2)
        rw [ia54] at h52
        refine z_xN zt90 46 rfl rfl (fun (x55 : Int32) (h56 : x55.toInt = b6.toInt + 1) => ?_) (z_pAdd rfl rfl (by omega) (by omega))
        show z_ev (d + 2) 90 115 [some (.ref a0), some (.int p1), some (.int b2), some (.int b3), some (.int b4), some (.int b5), some (.int x55)] [] M49 _
        refine z_xP zt90 47 79 [some (.ref a0), some (.int p1), some (.int b2), some (.int b3), some (.int b4), some (.int b5), some (.int x55)] [] rfl rfl ?_
        have h58 := h25
        have ia57 := z_rfe h53 (X50.2.f k0 (by decide) (hbk _ _ _ _ _ k0).2.2.2.2.2.2.2.2.2)
        rw [ia57] at h58
        have hu59 := hB b6.toInt.toNat (Nat.le_refl _) (by omega)
        rw [show z_Lg M (a0 + 10) b6.toInt.toNat = y24 from h58] at hu59
        obtain ⟨-, -, hm60, -, -, -, -, -, -, ⟨ya61, e11_62, k11_63, f11_64⟩⟩ := id hag
        have h65 := (e51.f k0 (by decide) h26)
        have iN66 := z_rfe h65 (X50.2.f k0 (by decide) hN0)
        have h67 := (e51.f k28 (by decide) h30)
        have h68 := h30
        rw [iN66] at h68
        have hw69 := z_ybw (z_kpL11 h68 (X.2.f hag.1 (by decide) e11_62) h43 (z_ixm (B := z_sp m) h38.1 (by omega) (by omega) h40 (by omega)) (X.2.lg k11_63 (by decide)))
        have hn70 := z_lfN hu59 f11_64 hw69 (by omega) (by omega) h46 h48
        have i71 : x55.toInt.toNat = b6.toInt.toNat + 1 := by omega
        exact ih.2.2 M49 b2 b3 b4 b5 x55 X50 ⟨by omega, by omega⟩ ⟨by omega, by omega⟩ ⟨by omega, by omega⟩ ⟨by omega, by omega⟩ ⟨by omega, by omega⟩ (by omega) (by omega) (by omega) (by omega) (by omega) hq hR hd (by rw [i71]; exact z_lfS hA (z_lfCN hn70 ⟨by omega, by omega⟩) h52 rfl) (fun b hb hs => by rw [h52]; show ∀ i, i < 64 → ((if b = b6.toInt.toNat then _ else z_Lg M (a0 + 10) b).toBitVec.getLsbD i = true ↔ _); rw [if_neg (by omega)]; exact hB b (by omega) hs) (by omega)
      refine z_xP zt92 10 30 [some (.ref a27), some (.int b4), some (.int b5), some (.int b6), some (.long y42), none] [.long y42] rfl rfl ?_
      refine z_xrl zt92 14 rfl zzr92 ?_
      show z_ev (d + 2) 90 110 [some (.ref a0), some (.int p1), some (.int b2), some (.int b3), some (.int b4), some (.int b5), some (.int b6)] [.long y42, .long y24, .int b6, .ref a2] M _
      refine z_xL zt90 44 rfl rfl (fun (y72 : Int64) (h73 : y72 = y24 &&& y42) => ?_) (rfl)
      refine z_xlsv zt90 45 rfl X k3 (by decide) (X.1.g4 k3 (by decide)) (by omega) (by omega) (by decide) (fun M74 X75 e76 h77 => ?_)
      have h78 := (e76.f k0 (by decide) h1)
      have ia79 := z_rfe h78 (X75.2.f k0 (by decide) (hbk _ _ _ _ _ k0).2.2.2.2.2.2.2.2.2)
      rw [ia79] at h77
      refine z_xN zt90 46 rfl rfl (fun (x80 : Int32) (h81 : x80.toInt = b6.toInt + 1) => ?_) (z_pAdd rfl rfl (by omega) (by omega))
      show z_ev (d + 2) 90 115 [some (.ref a0), some (.int p1), some (.int b2), some (.int b3), some (.int b4), some (.int b5), some (.int x80)] [] M74 _
      refine z_xP zt90 47 79 [some (.ref a0), some (.int p1), some (.int b2), some (.int b3), some (.int b4), some (.int b5), some (.int x80)] [] rfl rfl ?_
      have h83 := h25
      have ia82 := z_rfe h78 (X75.2.f k0 (by decide) (hbk _ _ _ _ _ k0).2.2.2.2.2.2.2.2.2)
      rw [ia82] at h83
      have hu84 := hB b6.toInt.toNat (Nat.le_refl _) (by omega)
      rw [show z_Lg M (a0 + 10) b6.toInt.toNat = y24 from h83] at hu84
      obtain ⟨-, -, hm85, -, -, -, -, -, -, ⟨ya86, e11_87, k11_88, f11_89⟩⟩ := id hag
      have h90 := (e76.f k0 (by decide) h26)
      have iN91 := z_rfe h90 (X75.2.f k0 (by decide) hN0)
      have h92 := (e76.f k28 (by decide) h30)
      have h93 := h30
      rw [iN91] at h93
      have hw94 := z_ybw (z_kpL11 h93 (X.2.f hag.1 (by decide) e11_87) h43 (z_ixm (B := z_sp m) h38.1 (by omega) (by omega) h40 (by omega)) (X.2.lg k11_88 (by decide)))
      have hn95 := z_lfY hu84 f11_89 hw94 (by omega) (by omega) h73
      have i96 : x80.toInt.toNat = b6.toInt.toNat + 1 := by omega
      exact ih.2.2 M74 b2 b3 b4 b5 x80 X75 ⟨by omega, by omega⟩ ⟨by omega, by omega⟩ ⟨by omega, by omega⟩ ⟨by omega, by omega⟩ ⟨by omega, by omega⟩ (by omega) (by omega) (by omega) (by omega) (by omega) hq hR hd (by rw [i96]; exact z_lfS hA (z_lfCY hn95 ⟨by omega, by omega⟩) h77 rfl) (fun b hb hs => by rw [h77]; show ∀ i, i < 64 → ((if b = b6.toInt.toNat then _ else z_Lg M (a0 + 10) b).toBitVec.getLsbD i = true ↔ _); rw [if_neg (by omega)]; exact hB b (by omega) hs) (by omega)
theorem zUC90 {T : List zK} {d : Nat} {K : Option Value → zH → Prop} {a0 : Nat} {q : Nat} {t : Nat} {m : Nat} {J : Nat} {p1 : Int32} {N t2 pr en : Nat} {B : Nat → Nat} {M0 : zH} (hW : z_W M0 T) (k0 : T[a0]? = some (.inl (3, q, t, m, J))) (hW0 : z_W M0 T) (hbk : z_blk T M0) (hN0 : z_F M0 a0 0 = some (.ref N)) (hag : z_AGO T M0 N q t2 m pr en B) (hp1 : 0 ≤ p1.toInt) (kk : ∀ (x : Int32) (M1 : zH), z_X T zw90 M0 M1 → 0 ≤ x.toInt → x.toInt ≤ 1048575 → z_twI B q (fun k => (z_Ar M0 (a0 + 4) k).toInt) (fun k => p1.toInt.toNat / 2 ^ k % 2 = 1) (fun i => (z_Ar M0 (a0 + 7) i).toInt.toNat) q x.toInt → K (some (.int x)) M1) : z_ev (d + 2) 90 0 [some (.ref a0), some (.int p1), none, none, none, none, none] [] M0 K := by
  have X : z_X T zw90 M0 M0 := .refl hW
  have g0 := X.1.p3 k0
  refine z_xP zt90 0 2 [some (.ref a0), some (.int p1), some (.int 0), none, none, none, none] [] rfl rfl ?_
  have q0 : ((0 : Int32)).toInt = 0 := rfl
  exact (zUB90 k0 hW0 hbk hN0 hag hp1 kk 4624).1 M0 (0) X (by decide) (by omega) (z_lft0 rfl) (by omega)
