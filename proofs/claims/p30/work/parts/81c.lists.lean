/-! listSets, told -/
theorem z_b01 {x : Int32} {v : Nat} (h : x.toInt = ((v % 2 : Nat) : Int)) : (x.toInt = 0 → v % 2 ≠ 1) ∧ (x.toInt ≠ 0 → v % 2 = 1) := ⟨fun a => by omega, fun a => by omega⟩
theorem zLB26 {T T0 : List zK} {d : Nat} {K : Option Value → zH → Prop} {a0 q t m sa lb ya : Nat} {B : Nat → Nat} {M0 : zH} (k0 : T[a0]? = some (.inl (2, q, t, m, 0))) (h5 : z_F M0 a0 5 = some (.ref sa)) (ks : T[sa]? = some (.inr (102, 0, m, 0, 1023))) (h9 : z_F M0 a0 9 = some (.ref lb)) (k9 : T[lb]? = some (.inr (109, 1, z_bl q, 0, 0))) (h11 : z_F M0 a0 11 = some (.ref ya)) (ky : T[ya]? = some (.inr (111, 1, q * z_sp m, 0, 0))) (n1 : T0[sa]? = none) (n2 : T0[ya]? = none) (hl : ∀ s, s < 64 * z_bl q → ((z_Lg M0 lb (s / 64)).toBitVec.getLsbD (s % 64) = true ↔ s < z_po q ∧ B s = 0)) (hm : m = z_lc B (z_po q)) (kk : ∀ (M1 : zH), z_X T zw26 M0 M1 → z_ke T0 [] M0 M1 → z_LS B (z_po q) (z_Ar M1 sa) → z_YO B (z_po q) 0 q (z_sp m) (z_Lg M1 ya) → K none M1) : ∀ n : Nat, (∀ (M : zH) (b1 : Int32) (b2 : Int32) (o3 : Option Value), z_X T zw26 M0 M → z_ke T0 [] M0 M → b1.toInt = (z_lc B b2.toInt.toNat : Int) → 0 ≤ b2.toInt → b2.toInt ≤ ((z_po q : Nat) : Int) → z_LS B b2.toInt.toNat (z_Ar M sa) → z_YO B b2.toInt.toNat 0 q (z_sp m) (z_Lg M ya) → ((((0) * 3 + 1) * 1025 + (1024 - b2.toInt)) * 3 + 2) * 11 + (0) < (n : Int) → z_ev (d + 2) 26 4 [some (.ref a0), some (.int b1), some (.int b2), o3] [] M K) ∧ (∀ (M : zH) (b1 : Int32) (b2 : Int32) (b3 : Int32), z_X T zw26 M0 M → z_ke T0 [] M0 M → b1.toInt = (z_lc B b2.toInt.toNat : Int) → 0 ≤ b2.toInt → b2.toInt < ((z_po q : Nat) : Int) → B b2.toInt.toNat = 0 → 0 ≤ b3.toInt ∧ b3.toInt ≤ 10 → z_LS B (b2.toInt.toNat + 1) (z_Ar M sa) → z_YO B b2.toInt.toNat b3.toInt.toNat q (z_sp m) (z_Lg M ya) → ((((0) * 3 + 1) * 1025 + (1024 - b2.toInt)) * 3 + 0) * 11 + (10 - b3.toInt) < (n : Int) → z_ev (d + 2) 26 41 [some (.ref a0), some (.int b1), some (.int b2), some (.int b3)] [] M K) := by
  intro n
  induction n with
  | zero =>
    refine ⟨fun M b1 b2 o3 X _ _ _ _ _ _ _ => ?_, fun M b1 b2 b3 X _ _ _ _ _ _ _ _ _ => ?_⟩
    · have g0 := (X.1.p2 k0).2.1.2.1
      exfalso; omega
    · have g0 := (X.1.p2 k0).2.1.2.1
      exfalso; omega
  | succ n ih =>
    refine ⟨?_, ?_⟩
    · intro M b1 b2 o3 X hk hb1 hh0 hh1 hS hY hE
      have g0 := X.1.p2 k0
      have hle := z_lc_le B b2.toInt.toNat
      refine z_xP zt26 1 6 [some (.ref a0), some (.int b1), some (.int b2), o3] [.ref a0, .int b2] rfl rfl ?_
      refine z_xgI zt26 2 rfl zo26 zzf2_32 X k0 (by decide) (by decide) rfl (fun (x2 : Int32) h1 (h3 : ((z_po q : Nat) : Int) - 1 ≤ x2.toInt) (h4 : x2.toInt ≤ ((z_po q : Nat) : Int) - 1) => ?_)
      refine z_xJ zt26 3 rfl rfl (fun (h5 : x2.toInt < b2.toInt) => ?_) (fun (h5b : b2.toInt ≤ x2.toInt) => ?_)
      · have e : b2.toInt.toNat = z_po q := by omega
        rw [e] at hS hY
        exact z_xrv zt26 45 rfl zzr26 (kk M X hk hS hY)
      refine z_xP zt26 4 14 [some (.ref a0), some (.int b1), some (.int b2), o3] [.ref a0, .int b1] rfl rfl ?_
      refine z_xgv zt26 5 rfl zo26 zzf2_60 X k0 (by decide) (X.2.f k0 (by decide) h5) ?_
      refine z_xln zt26 6 rfl X ks (by decide) (by omega) (fun (x9 : Int32) (h10 : x9.toInt = ((m : Nat) : Int)) => ?_)
      refine z_xJ zt26 7 rfl rfl (fun (h12 : x9.toInt ≤ b1.toInt) => ?_) (fun (h12 : b1.toInt < x9.toInt) => ?_)
      · exact z_xrv zt26 45 rfl zzr26 (kk M X hk (z_LSE hS (by omega)) (z_YOE hY (by omega) (by omega)))
      refine z_xP zt26 8 23 [some (.ref a0), some (.int b1), some (.int b2), o3] [.int b2, .ref a0] rfl rfl ?_
      refine z_xcV (vs := [.ref a0, .int b2]) (r := []) (L2 := [some (.ref a0), some (.int b2)]) zt26 9 rfl zo26 zzcV2_72 (Or.inl rfl) rfl X k0 rfl rfl rfl (Nat.le_of_ble_eq_true rfl) zzm27 (Nat.le_of_ble_eq_true rfl) rfl ?_
      refine z_xP zt27 0 2 [some (.ref a0), some (.int b2)] [.int b2, .ref a0] rfl rfl ?_
      refine z_xcV (vs := [.ref a0, .int b2]) (r := []) (L2 := [some (.ref a0), some (.int b2)]) zt27 1 rfl zo27 zzcV2_76 (Or.inl rfl) rfl X k0 rfl rfl rfl (Nat.le_of_ble_eq_true rfl) zzm28 (Nat.le_of_ble_eq_true rfl) rfl ?_
      refine z_xP zt28 0 1 [some (.ref a0), some (.int b2)] [.int b2] rfl rfl ?_
      refine z_xZ zt28 1 rfl rfl (fun (h12 : b2.toInt < 0) => absurd h12 (by omega)) (fun (h12b : 0 ≤ b2.toInt) => ?_)
      refine z_xP zt28 2 6 [some (.ref a0), some (.int b2)] [.ref a0, .int b2] rfl rfl ?_
      refine z_xgv zt28 3 rfl zo28 zzf2_32 X k0 (by decide) h1 ?_
      refine z_xJ zt28 4 rfl rfl (fun (h13 : x2.toInt < b2.toInt) => absurd h13 (by omega)) (fun (h13 : b2.toInt ≤ x2.toInt) => ?_)
      refine z_xP zt28 5 17 [some (.ref a0), some (.int b2)] [.int 1] rfl rfl ?_
      refine z_xrz zt28 7 rfl zzr28 (by decide) (by decide) ?_
      show z_ev (d + 1) 27 5 [some (.ref a0), some (.int b2)] [.int 1] M _
      refine z_xZ zt27 2 rfl rfl (fun (h18 : (1 : Int) = 0) => absurd h18 (by omega)) (fun (h18 : (1 : Int) ≠ 0) => ?_)
      refine z_xP zt27 3 9 [some (.ref a0), some (.int b2)] [.ref a0] rfl rfl ?_
      refine z_xgv zt27 4 rfl zo27 zzf2_44 X k0 (by decide) (X.2.f k0 (by decide) h9) ?_
      refine z_xP zt27 5 15 [some (.ref a0), some (.int b2)] [.int 6, .int b2, .ref lb] rfl rfl ?_
      refine z_xI zt27 6 rfl rfl (fun (x22 : Int32) (h23 : x22.toInt = b2.toInt / 64) => ?_) (z_pShr (c := 64) 6 rfl rfl (by decide))
      refine z_xllv zt27 7 rfl X k9 (by decide) (by omega) (by omega) (fun (y24 : Int64) hy24 => ?_)
      refine z_xP zt27 8 20 [some (.ref a0), some (.int b2)] [.int 63, .int b2, .long y24] rfl rfl ?_
      refine z_xI zt27 9 rfl rfl (fun (x25 : Int32) (h26 : x25 = b2 &&& 63) => ?_) rfl
      refine z_xL zt27 10 rfl rfl (fun (y27 : Int64) (h27 : y27 = (y24.toUInt64 >>> (x25.toInt64.toUInt64 &&& Int64.toUInt64 63)).toInt64) => ?_) rfl
      refine z_xP zt27 11 23 [some (.ref a0), some (.int b2)] [.long 1, .long y27] rfl rfl ?_
      refine z_xL zt27 12 rfl rfl (fun (y29 : Int64) (h29 : y29 = y27 &&& 1) => ?_) rfl
      refine z_xP zt27 13 25 [some (.ref a0), some (.int b2)] [.long 0, .long y29] rfl rfl ?_
      refine z_xI zt27 14 rfl rfl (fun (x31 : Int32) (h32 : (x31.toInt < 0 ∧ y29.toInt < 0) ∨ (x31.toInt = 0 ∧ y29.toInt = 0) ∨ (0 < x31.toInt ∧ 0 < y29.toInt)) => ?_) (z_qCmp rfl rfl)
      have e26 := z_and63n h26 (by omega)
      have hbt := z_ush (x := y24) (k := b2.toInt.toNat % 64) (s := x25) (by omega) (by omega) h27 h29
      have hlw := hl b2.toInt.toNat (by omega)
      have e22 : x22.toNatClampNeg = b2.toInt.toNat / 64 := by unfold Int32.toNatClampNeg; omega
      rw [e22, X.2.lg k9 (by decide)] at hy24
      rw [hy24] at hlw
      have hpo : b2.toInt.toNat < z_po q := by omega
      refine z_xZ zt27 15 rfl rfl (fun (h33 : x31.toInt = 0) => ?_) (fun (h33 : x31.toInt ≠ 0) => ?_)
      · have hB : B b2.toInt.toNat ≠ 0 := fun h => hbt.mp (by omega) (hlw.mpr ⟨hpo, h⟩)
        refine z_xP zt27 17 34 [some (.ref a0), some (.int b2)] [.int 0] rfl rfl ?_
        refine z_xrz zt27 18 rfl zzr27 (by decide) (by decide) ?_
        show z_ev (d + 2) 26 26 [some (.ref a0), some (.int b1), some (.int b2), o3] [.int 0] M _
        refine z_xZ zt26 10 rfl rfl (fun (h34 : (0 : Int) ≠ 0) => absurd h34 (by omega)) (fun (h34 : (0 : Int) = 0) => ?_)
        refine z_xP zt26 11 91 [some (.ref a0), some (.int b1), some (.int b2), o3] [] rfl rfl ?_
        refine z_xN zt26 43 rfl rfl (fun (x35 : Int32) (h36 : x35.toInt = b2.toInt + 1) => ?_) (z_pAdd rfl rfl (by omega) (by omega))
        show z_ev (d + 2) 26 94 [some (.ref a0), some (.int b1), some (.int x35), o3] [] M _
        refine z_xP zt26 44 4 [some (.ref a0), some (.int b1), some (.int x35), o3] [] rfl rfl ?_
        have e35 : x35.toInt.toNat = b2.toInt.toNat + 1 := by omega
        exact ih.1 M b1 x35 o3 X hk (by rw [e35, z_lcN hB]; exact hb1) (by omega) (by omega) (by rw [e35]; exact z_LSN hS hB) (by rw [e35]; exact z_YOM hY hB) (by omega)
      have hB : B b2.toInt.toNat = 0 := by
        by_cases c : y24.toBitVec.getLsbD (b2.toInt.toNat % 64) = true
        · exact (hlw.mp c).2
        · have := hbt.mpr c
          omega
      have hlt := z_lc_lt B hpo hB
      refine z_xP zt27 16 34 [some (.ref a0), some (.int b2)] [.int 1] rfl rfl ?_
      refine z_xrz zt27 18 rfl zzr27 (by decide) (by decide) ?_
      show z_ev (d + 2) 26 26 [some (.ref a0), some (.int b1), some (.int b2), o3] [.int 1] M _
      refine z_xZ zt26 10 rfl rfl (fun (h37 : (1 : Int) ≠ 0) => ?_) (fun (h37 : (1 : Int) = 0) => absurd h37 (by omega))
      refine z_xP zt26 12 33 [some (.ref a0), some (.int b1), some (.int b2), o3] [.ref a0] rfl rfl ?_
      refine z_xgv zt26 13 rfl zo26 zzf2_60 X k0 (by decide) (X.2.f k0 (by decide) h5) ?_
      refine z_xP zt26 14 38 [some (.ref a0), some (.int b1), some (.int b2), o3] [.int b2, .int b1, .ref sa] rfl rfl ?_
      refine z_xisn zt26 15 rfl X ks (by decide) (X.1.g4 ks (by decide)) (by omega) (by omega) (by omega) (by omega) (by decide) (fun M38 X39 e40 h41 hne => ?_)
      refine z_xP zt26 16 41 [some (.ref a0), some (.int b1), some (.int b2), some (.int 0)] [] rfl rfl ?_
      have q0 : ((0 : Int32)).toInt = 0 := rfl
      have ek : b1.toNatClampNeg = z_lc B b2.toInt.toNat := by unfold Int32.toNatClampNeg; omega
      exact ih.2 M38 b1 b2 (0) X39 (hk.trans (z_ke.ne hne n1) (fun _ h => h)) hb1 (by omega) (by omega) hB (by decide) (z_LSS hS hB h41 ek (by omega)) (by rw [e40.lg ky (by decide)]; exact hY) (by omega)
    · intro M b1 b2 b3 X hk hb1 hh1 hh2 hB hh3 hS hY hE
      have g0 := X.1.p2 k0
      have hpo : b2.toInt.toNat < z_po q := by omega
      have hlt := z_lc_lt B hpo hB
      have hle := z_lc_le B (z_po q)
      refine z_xP zt26 17 43 [some (.ref a0), some (.int b1), some (.int b2), some (.int b3)] [.ref a0, .int b3] rfl rfl ?_
      refine z_xgI zt26 18 rfl zo26 zzf2_15 X k0 (by decide) (by decide) rfl (fun (x2 : Int32) h1 (h3 : (q : Int) ≤ x2.toInt) (h4 : x2.toInt ≤ (q : Int)) => ?_)
      refine z_xJ zt26 19 rfl rfl (fun (h6 : x2.toInt ≤ b3.toInt) => ?_) (fun (h6 : b3.toInt < x2.toInt) => ?_)
      · refine z_xN zt26 42 rfl rfl (fun (x6 : Int32) (h7 : x6.toInt = b1.toInt + 1) => ?_) (z_pAdd rfl rfl (by omega) (by omega))
        show z_ev (d + 2) 26 91 [some (.ref a0), some (.int x6), some (.int b2), some (.int b3)] [] M _
        refine z_xN zt26 43 rfl rfl (fun (x8 : Int32) (h8 : x8.toInt = b2.toInt + 1) => ?_) (z_pAdd rfl rfl (by omega) (by omega))
        show z_ev (d + 2) 26 94 [some (.ref a0), some (.int x6), some (.int x8), some (.int b3)] [] M _
        refine z_xP zt26 44 4 [some (.ref a0), some (.int x6), some (.int x8), some (.int b3)] [] rfl rfl ?_
        have e8 : x8.toInt.toNat = b2.toInt.toNat + 1 := by omega
        exact ih.1 M x6 x8 (some (.int b3)) X hk (by rw [e8, z_lc1 hB]; omega) (by omega) (by omega) (by rw [e8]; exact hS) (by rw [e8]; exact z_YON hY (by omega)) (by omega)
      refine z_xP zt26 20 51 [some (.ref a0), some (.int b1), some (.int b2), some (.int b3)] [.int b3, .int b2] rfl rfl ?_
      refine z_xI zt26 21 rfl rfl (fun (x10 : Int32) (h11b : x10 = b2 >>> (b3 &&& 31)) => ?_) rfl
      refine z_xP zt26 22 53 [some (.ref a0), some (.int b1), some (.int b2), some (.int b3)] [.int 1, .int x10] rfl rfl ?_
      refine z_xI zt26 23 rfl rfl (fun (x12 : Int32) (h13 : x12 = x10 &&& 1) => ?_) rfl
      have hbt := z_b01 (z_sbit h11b h13 (by omega) (by omega))
      refine z_xZ zt26 24 rfl rfl (fun (h14 : x12.toInt = 0) => ?_) (fun (h14 : x12.toInt ≠ 0) => ?_)
      · refine z_xN zt26 40 rfl rfl (fun (x15 : Int32) (h16 : x15.toInt = b3.toInt + 1) => ?_) (z_pAdd rfl rfl (by omega) (by omega))
        show z_ev (d + 2) 26 85 [some (.ref a0), some (.int b1), some (.int b2), some (.int x15)] [] M _
        refine z_xP zt26 41 41 [some (.ref a0), some (.int b1), some (.int b2), some (.int x15)] [] rfl rfl ?_
        have e15 : x15.toInt.toNat = b3.toInt.toNat + 1 := by omega
        have hz := z_YOZ hY (hbt.1 h14)
        clear hbt
        exact ih.2 M b1 b2 x15 X hk hb1 hh1 hh2 hB ⟨by omega, by omega⟩ hS (by rw [e15]; exact hz) (by omega)
      have hbit := hbt.2 h14
      clear hbt
      refine z_xP zt26 25 58 [some (.ref a0), some (.int b1), some (.int b2), some (.int b3)] [.ref a0] rfl rfl ?_
      refine z_xgv zt26 26 rfl zo26 zzf2_66 X k0 (by decide) (X.2.f k0 (by decide) h11) ?_
      refine z_xP zt26 27 63 [some (.ref a0), some (.int b1), some (.int b2), some (.int b3)] [.ref a0, .int b3, .ref ya] rfl rfl ?_
      refine z_xgI zt26 28 rfl zo26 zzf2_63 X k0 (by decide) (by decide) rfl (fun (x21 : Int32) h20 (h22 : ((z_sp m : Nat) : Int) ≤ x21.toInt) (h23 : x21.toInt ≤ ((z_sp m : Nat) : Int)) => ?_)
      have hY2 : ∀ {Y2 : Nat → Int64} {k : Nat} {v : Int64}, Y2 = z_updL (z_Lg M ya) k v → k = b3.toInt.toNat * z_sp m + z_lc B b2.toInt.toNat / 64 → (∀ i, i < 64 → (v.toBitVec.getLsbD i = true ↔ ((z_Lg M ya k).toBitVec.getLsbD i = true ∨ i = z_lc B b2.toInt.toNat % 64))) → z_YO B b2.toInt.toNat (b3.toInt.toNat + 1) q (z_sp m) Y2 := fun e1 e2 e3 => z_YOS hY hB hbit (by omega) e1 e2 e3
      clear hbit hY
      refine z_xI zt26 29 rfl rfl (fun (x24 : Int32) (h25 : x24.toInt = b3.toInt * x21.toInt ∧ 0 ≤ x24.toInt ∧ x24.toInt ≤ 144) => ?_) (z_pMulB (a := 9) (b := 16) rfl rfl (by omega) (by omega) (by omega) (by omega) (by decide) (by decide))
      refine z_xP zt26 30 70 [some (.ref a0), some (.int b1), some (.int b2), some (.int b3)] [.int 6, .int b1, .int x24, .ref ya] rfl rfl ?_
      refine z_xI zt26 31 rfl rfl (fun (x26 : Int32) (h27 : x26.toInt = b1.toInt / 64) => ?_) (z_pShr (c := 64) 6 rfl rfl (by decide))
      refine z_xI zt26 32 rfl rfl (fun (x28 : Int32) (h29 : x28.toInt = x24.toInt + x26.toInt) => ?_) (z_pAdd rfl rfl (by omega) (by omega))
      refine z_xP zt26 33 73 [some (.ref a0), some (.int b1), some (.int b2), some (.int b3)] [.int x28, .ref ya, .int x28, .ref ya] rfl rfl ?_
      have h30 := z_nlx (p := x24.toInt) (x := b3.toInt) (y := x21.toInt) (s := x26.toInt) (z := x28.toInt) (A := q) (B := z_sp m) (by omega) (by omega) (by omega) (by omega) (by omega) (by omega) (by omega)
      have e28 : x28.toNatClampNeg = b3.toInt.toNat * z_sp m + x26.toInt.toNat := z_ixm h25.1 (by omega) (by omega) h29 (by omega)
      have e26 : x26.toInt.toNat = z_lc B b2.toInt.toNat / 64 := by omega
      rw [e26] at e28
      refine z_xllv zt26 34 rfl X ky (by decide) h30.1 h30.2 (fun (y31 : Int64) hy31 => ?_)
      refine z_xP zt26 35 78 [some (.ref a0), some (.int b1), some (.int b2), some (.int b3)] [.int 63, .int b1, .long 1, .long y31, .int x28, .ref ya] rfl rfl ?_
      refine z_xI zt26 36 rfl rfl (fun (x32 : Int32) (h33 : x32 = b1 &&& 63) => ?_) rfl
      refine z_xL zt26 37 rfl rfl (fun (y34 : Int64) (h34 : y34 = (1 : Int64) <<< (x32.toInt64 &&& 63)) => ?_) rfl
      refine z_xL zt26 38 rfl rfl (fun (y36 : Int64) (h36 : y36 = y31 ||| y34) => ?_) rfl
      have e33 := z_and63n h33 (by omega)
      refine z_xlsn zt26 39 rfl X ky (by decide) (X.1.g4 ky (by decide)) h30.1 h30.2 (by decide) (fun M39 X40 e41 h39 hne => ?_)
      have hz := hY2 h39 e28 (by rw [hy31]; exact z_orb (z_1sh (k := z_lc B b2.toInt.toNat % 64) (x := x32) (by omega) (by omega) h34) h36)
      refine z_xN zt26 40 rfl rfl (fun (x42 : Int32) (h43 : x42.toInt = b3.toInt + 1) => ?_) (z_pAdd rfl rfl (by omega) (by omega))
      show z_ev (d + 2) 26 85 [some (.ref a0), some (.int b1), some (.int b2), some (.int x42)] [] M39 _
      refine z_xP zt26 41 41 [some (.ref a0), some (.int b1), some (.int b2), some (.int x42)] [] rfl rfl ?_
      have e42 : x42.toInt.toNat = b3.toInt.toNat + 1 := by omega
      exact ih.2 M39 b1 b2 x42 X40 (hk.trans (z_ke.ne hne n2) (fun _ h => h)) hb1 hh1 hh2 hB ⟨by omega, by omega⟩ (by rw [e41.a ks (by decide)]; exact hS) (by rw [e42]; exact hz) (by omega)
theorem zLC26 {T T0 : List zK} {d : Nat} {K : Option Value → zH → Prop} {a0 q t m sa lb ya : Nat} {B : Nat → Nat} {M0 : zH} (hW : z_W M0 T) (k0 : T[a0]? = some (.inl (2, q, t, m, 0))) (h5 : z_F M0 a0 5 = some (.ref sa)) (ks : T[sa]? = some (.inr (102, 0, m, 0, 1023))) (h9 : z_F M0 a0 9 = some (.ref lb)) (k9 : T[lb]? = some (.inr (109, 1, z_bl q, 0, 0))) (h11 : z_F M0 a0 11 = some (.ref ya)) (ky : T[ya]? = some (.inr (111, 1, q * z_sp m, 0, 0))) (n1 : T0[sa]? = none) (n2 : T0[ya]? = none) (hl : ∀ s, s < 64 * z_bl q → ((z_Lg M0 lb (s / 64)).toBitVec.getLsbD (s % 64) = true ↔ s < z_po q ∧ B s = 0)) (hm : m = z_lc B (z_po q)) (hz : z_Lg M0 ya = fun _ => 0) (kk : ∀ (M1 : zH), z_X T zw26 M0 M1 → z_ke T0 [] M0 M1 → z_LS B (z_po q) (z_Ar M1 sa) → z_YO B (z_po q) 0 q (z_sp m) (z_Lg M1 ya) → K none M1) : z_ev (d + 2) 26 0 [some (.ref a0), none, none, none] [] M0 K := by
  have X : z_X T zw26 M0 M0 := .refl hW
  refine z_xP zt26 0 4 [some (.ref a0), some (.int 0), some (.int 0), none] [] rfl rfl ?_
  have q0 : ((0 : Int32)).toInt = 0 := rfl
  exact (zLB26 k0 h5 ks h9 k9 h11 ky n1 n2 hl hm kk 101475).1 M0 (0) (0) none X .refl (by rw [q0]; rfl) (by omega) (by omega) z_LS0 (z_YO0 hz) (by omega)
