/-! feed, told -/
theorem zTB4 {T : List zK} {d : Nat} {K : Option Value → zH → Prop} {p1 : Int32} {p2 : Int32} {M0 : zH} (u1 : 1 ≤ p1.toInt ∧ p1.toInt ≤ 4) (kk : ∀ (x : Int32) (M1 : zH), z_X T zw4 M0 M1 → 0 ≤ x.toInt → x.toInt ≤ 1 → z_tkP M0 M1 p1.toInt x.toInt p2 → K (some (.int x)) M1) : ∀ n : Nat, (∀ (M : zH) (b3 : Int32) (z0 : Int32), z_X T zw4 M0 M → 0 ≤ b3.toInt ∧ b3.toInt ≤ 4 → z_F M 5 1 = some (.int z0) → 0 ≤ z0.toInt ∧ z0.toInt ≤ 160 → z0.toInt + p1.toInt - b3.toInt ≤ 160 → b3.toInt ≤ p1.toInt → z_fdi M0 M 5 6 b3.toInt p2 → ((0) * 2 + 0) * 5 + (4 - b3.toInt) < (n : Int) → z_ev d 4 16 [some (.ref 5), some (.int p1), some (.int p2), some (.int b3)] [] M K) := by
  intro n
  induction n with
  | zero => exact by intros; exfalso; omega
  | succ n ih =>
    intro M b3 z0 X hh0 hp0 hh2 hh3 hh4 hI hE
    refine z_xP zt4 9 18 [some (.ref 5), some (.int p1), some (.int p2), some (.int b3)] [.int p1, .int b3] rfl rfl ?_
    refine z_xJ zt4 10 rfl rfl (fun (h1 : p1.toInt ≤ b3.toInt) => ?_) (fun (h1 : b3.toInt < p1.toInt) => ?_)
    · skip
      refine z_xP zt4 28 57 [some (.ref 5), some (.int p1), some (.int p2), some (.int b3)] [.int 1] rfl rfl ?_
      have q1 : ((1 : Int32)).toInt = 1 := rfl
      have f5 : T[5]? = some (.inl (1, 0, 0, 0, 0)) := X.1.k rfl (by decide)
      have q1 : ((1 : Int32)).toInt = 1 := rfl
      exact z_xrz zt4 29 rfl zzr4 (by decide) (by decide) (kk 1 M X (by omega) (by omega) (z_tkY hI hp0 (by omega) (by omega) (by omega)))
    refine z_xP zt4 11 22 [some (.ref 5), some (.int p1), some (.int p2), some (.int b3)] [.ref 5] rfl rfl ?_
    have f5 : T[5]? = some (.inl (1, 0, 0, 0, 0)) := X.1.k rfl (by decide)
    refine z_xgX (b := 6) zt4 12 rfl zo4 zzf1_9 X f5 (by decide) (by decide) rfl ?_
    refine z_xP zt4 13 26 [some (.ref 5), some (.int p1), some (.int p2), some (.int b3)] [.ref 5, .ref 6] rfl rfl ?_
    refine z_xgv zt4 14 rfl zo4 zzf1_25 X f5 (by decide) hp0 ?_
    refine z_xP zt4 15 33 [some (.ref 5), some (.int p1), some (.int p2), some (.int b3)] [.int b3, .int 8, .int p2, .int z0, .ref 6] rfl rfl ?_
    refine z_xI zt4 16 rfl rfl (fun (x2 : Int32) (h3 : x2.toInt = 8 * b3.toInt) => ?_) (z_pMul rfl rfl (by omega) (by omega))
    refine z_xI zt4 17 rfl rfl (fun (x4 : Int32) (h5 : x4 = (p2.toUInt32 >>> (x2.toUInt32 &&& Int32.toUInt32 31)).toInt32) => ?_) (rfl)
    refine z_xP zt4 18 38 [some (.ref 5), some (.int p1), some (.int p2), some (.int b3)] [.int 255, .int x4, .int z0, .ref 6] rfl rfl ?_
    refine z_xI zt4 19 rfl rfl (fun (x6 : Int32) (h7 : x6 = x4 &&& 255 ∧ 0 ≤ x6.toInt ∧ x6.toInt ≤ 255) => ?_) (⟨rfl, by rw [z_and255]; omega⟩)
    have f6 : T[6]? = some (.inr (6, 0, 160, (-2147483648), 2147483647)) := X.1.k rfl (by decide)
    refine z_xis zt4 20 rfl X f6 (by decide) (by decide) (by omega) (by omega) (Int32.le_toInt _) (Int32.toInt_le _) (by decide) (fun M8 X9 e10 h11 => ?_)
    refine z_xP zt4 21 42 [some (.ref 5), some (.int p1), some (.int p2), some (.int b3)] [.ref 5, .ref 5] rfl rfl ?_
    have h12 := (e10.f f5 (by decide) hp0)
    refine z_xgv zt4 22 rfl zo4 zzf1_25 X9 f5 (by decide) h12 ?_
    refine z_xP zt4 23 46 [some (.ref 5), some (.int p1), some (.int p2), some (.int b3)] [.int 1, .int z0, .ref 5] rfl rfl ?_
    refine z_xI zt4 24 rfl rfl (fun (x13 : Int32) (h14 : x13.toInt = z0.toInt + 1) => ?_) (z_pAdd rfl rfl (by omega) (by omega))
    refine z_xpf zt4 25 rfl zo4 zzf1_25 X9 f5 (by decide) (by decide) ⟨by omega, by omega⟩ rfl (by decide) zw1_1 (fun M15 X16 e17 h18 => ?_)
    refine z_xN zt4 26 rfl rfl (fun (x19 : Int32) (h20 : x19.toInt = b3.toInt + 1) => ?_) (z_pAdd rfl rfl (by omega) (by omega))
    show z_ev d 4 53 [some (.ref 5), some (.int p1), some (.int p2), some (.int x19)] [] M15 _
    refine z_xP zt4 27 16 [some (.ref 5), some (.int p1), some (.int p2), some (.int x19)] [] rfl rfl ?_
    exact ih M15 x19 x13 X16 ⟨by omega, by omega⟩ h18 ⟨by omega, by omega⟩ (by omega) (by omega) (z_fdiS hI hp0 ((e17.a f6 (by decide)).trans h11) (z_bytU (i := b3.toInt.toNat) (by omega) (by omega) h5 h7.1) h18 (by omega) (by omega)) (by omega)
theorem zTC4 {T : List zK} {d : Nat} {K : Option Value → zH → Prop} {p1 : Int32} {p2 : Int32} {M0 : zH} (hW : z_W M0 T) (u1 : 1 ≤ p1.toInt ∧ p1.toInt ≤ 4) (kk : ∀ (x : Int32) (M1 : zH), z_X T zw4 M0 M1 → 0 ≤ x.toInt → x.toInt ≤ 1 → z_tkP M0 M1 p1.toInt x.toInt p2 → K (some (.int x)) M1) : z_ev d 4 0 [some (.ref 5), some (.int p1), some (.int p2), none] [] M0 K := by
  have X : z_X T zw4 M0 M0 := .refl hW
  refine z_xP zt4 0 1 [some (.ref 5), some (.int p1), some (.int p2), none] [.ref 5] rfl rfl ?_
  have f5 : T[5]? = some (.inl (1, 0, 0, 0, 0)) := X.1.k rfl (by decide)
  refine z_xgI zt4 1 rfl zo4 zzf1_25 X f5 (by decide) (by decide) rfl (fun (x2 : Int32) h1 (h3 : 0 ≤ x2.toInt) (h4 : x2.toInt ≤ 160) => ?_)
  refine z_xP zt4 2 5 [some (.ref 5), some (.int p1), some (.int p2), none] [.int p1, .int x2] rfl rfl ?_
  refine z_xI zt4 3 rfl rfl (fun (x5 : Int32) (h6 : x5.toInt = x2.toInt + p1.toInt) => ?_) (z_pAdd rfl rfl (by omega) (by omega))
  refine z_xP zt4 4 9 [some (.ref 5), some (.int p1), some (.int p2), none] [.int 160, .int x5] rfl rfl ?_
  refine z_xJ zt4 5 rfl rfl (fun (h7 : x5.toInt ≤ 160) => ?_) (fun (h7 : 160 < x5.toInt) => ?_)
  · skip
    refine z_xP zt4 8 16 [some (.ref 5), some (.int p1), some (.int p2), some (.int 0)] [] rfl rfl ?_
    have q0 : ((0 : Int32)).toInt = 0 := rfl
    have q0 : ((0 : Int32)).toInt = 0 := rfl
    exact (zTB4 u1 kk 10) M0 (0) x2 X (by decide) h1 ⟨by omega, by omega⟩ (by omega) (by omega) (z_fdi0 h1 (by omega) rfl) (by omega)
  refine z_xP zt4 6 13 [some (.ref 5), some (.int p1), some (.int p2), none] [.int 0] rfl rfl ?_
  have q0 : ((0 : Int32)).toInt = 0 := rfl
  have q0 : ((0 : Int32)).toInt = 0 := rfl
  exact z_xrz zt4 7 rfl zzr4 (by decide) (by decide) (kk 0 M0 X (by omega) (by omega) (z_tkN h1 (by omega) (by omega)))
theorem zTC3 {T : List zK} {d : Nat} {K : Option Value → zH → Prop} {p1 : Int32} {p2 : Int32} {M0 : zH} (hW : z_W M0 T)  (kk : ∀ (x : Int32) (M1 : zH), z_X T zw3 M0 M1 → (-3) ≤ x.toInt → x.toInt ≤ 160 → z_fdd M0 M1 5 6 p1.toInt x.toInt p2 → K (some (.int x)) M1) : z_ev (d + 1) 3 0 [some (.ref 4), some (.int p1), some (.int p2)] [] M0 K := by
  have X : z_X T zw3 M0 M0 := .refl hW
  refine z_xP zt3 0 2 [some (.ref 4), some (.int p1), some (.int p2)] [.int 1, .int p1] rfl rfl ?_
  refine z_xJ zt3 1 rfl rfl (fun (h1 : p1.toInt < 1) => ?_) (fun (h1 : 1 ≤ p1.toInt) => ?_)
  · skip
    refine z_xP zt3 4 11 [some (.ref 4), some (.int p1), some (.int p2)] [.int (-1)] rfl rfl ?_
    have qm1 : (((-1) : Int32)).toInt = (-1) := rfl
    have qm1 : (((-1) : Int32)).toInt = (-1) := rfl
    exact z_xri zt3 5 rfl zzr3 (kk (-1) M0 X (by omega) (by omega) (z_fddB (by omega) (by omega)))
  refine z_xP zt3 2 7 [some (.ref 4), some (.int p1), some (.int p2)] [.int 4, .int p1] rfl rfl ?_
  refine z_xJ zt3 3 rfl rfl (fun (h2 : p1.toInt ≤ 4) => ?_) (fun (h2 : 4 < p1.toInt) => ?_)
  · skip
    refine z_xP zt3 6 13 [some (.ref 4), some (.int p1), some (.int p2)] [.ref 4] rfl rfl ?_
    have f4 : T[4]? = some (.inl (0, 0, 0, 0, 0)) := X.1.k rfl (by decide)
    refine z_xgX (b := 5) zt3 7 rfl zo3 zzf0_10 X f4 (by decide) (by decide) rfl ?_
    refine z_xP zt3 8 18 [some (.ref 4), some (.int p1), some (.int p2)] [.int p2, .int p1, .ref 5] rfl rfl ?_
    have f5 : T[5]? = some (.inl (1, 0, 0, 0, 0)) := X.1.k rfl (by decide)
    refine z_xcV (vs := [.ref 5, .int p1, .int p2]) (r := []) (L2 := [some (.ref 5), some (.int p1), some (.int p2), none]) zt3 9 rfl zo3 zzcV0_51 (Or.inl rfl) rfl X f5 rfl rfl rfl (Nat.le_of_ble_eq_true rfl) zzm4 (Nat.le_of_ble_eq_true rfl) rfl ?_
    refine zTC4 X.1 (by omega) (fun x6 M3 X4 h7 h8 h5 => ?_)
    have X9 := X.go X4 (z_sb (by decide))
    show z_ev (d + 1) 3 21 [some (.ref 4), some (.int p1), some (.int p2)] [.int x6] M3 _
    refine z_xZ zt3 10 rfl rfl (fun (h11 : x6.toInt = 0) => ?_) (fun (h11 : x6.toInt ≠ 0) => ?_)
    · skip
      refine z_xP zt3 15 36 [some (.ref 4), some (.int p1), some (.int p2)] [.int (-3)] rfl rfl ?_
      have qm3 : (((-3) : Int32)).toInt = (-3) := rfl
      have qm3 : (((-3) : Int32)).toInt = (-3) := rfl
      exact z_xri zt3 16 rfl zzr3 (kk (-3) M3 X9 (by omega) (by omega) (z_fddT h5 (by omega) ⟨by omega, by omega⟩ (by omega)))
    refine z_xP zt3 11 25 [some (.ref 4), some (.int p1), some (.int p2)] [.ref 4] rfl rfl ?_
    refine z_xgX (b := 5) zt3 12 rfl zo3 zzf0_10 X9 f4 (by decide) (by decide) rfl ?_
    refine z_xgI zt3 13 rfl zo3 zzf0_55 X9 f5 (by decide) (by decide) rfl (fun (x13 : Int32) h12 (h14 : 0 ≤ x13.toInt) (h15 : x13.toInt ≤ 160) => ?_)
    refine z_xP zt3 14 36 [some (.ref 4), some (.int p1), some (.int p2)] [.int x13] rfl rfl ?_
    exact z_xri zt3 16 rfl zzr3 (kk x13 M3 X9 (by omega) (by omega) (z_fddU h5 (by omega) ⟨by omega, by omega⟩ h12 rfl))
  refine z_xP zt3 4 11 [some (.ref 4), some (.int p1), some (.int p2)] [.int (-1)] rfl rfl ?_
  have qm1 : (((-1) : Int32)).toInt = (-1) := rfl
  have qm1 : (((-1) : Int32)).toInt = (-1) := rfl
  exact z_xri zt3 5 rfl zzr3 (kk (-1) M0 X (by omega) (by omega) (z_fddB (by omega) (by omega)))
theorem zYB188 {T : List zK} {d : Nat} {K : Option Value → zH → Prop} {p1 : Int32} {p2 : Int32} {M0 : zH}  (kk : ∀ (x : Int32) (M1 : zH), z_X T zw188 M0 M1 → (-3) ≤ x.toInt → x.toInt ≤ 160 → z_fdd M0 M1 19 20 p1.toInt x.toInt p2 → K (some (.int x)) M1) : ∀ n : Nat, (∀ (M : zH) (b3 : Int32) (z0 : Int32), z_X T zw188 M0 M → 1 ≤ p1.toInt ∧ p1.toInt ≤ 4 → 0 ≤ b3.toInt ∧ b3.toInt ≤ 4 → z_F M 19 1 = some (.int z0) → 0 ≤ z0.toInt ∧ z0.toInt ≤ 160 → z0.toInt + p1.toInt - b3.toInt ≤ 160 → b3.toInt ≤ p1.toInt → z_fdi M0 M 19 20 b3.toInt p2 → ((0) * 2 + 0) * 5 + (4 - b3.toInt) < (n : Int) → z_ev (d + 1) 188 31 [some (.ref 19), some (.int p1), some (.int p2), some (.int b3)] [] M K) := by
  intro n
  induction n with
  | zero => exact by intros; exfalso; omega
  | succ n ih =>
    intro M b3 z0 X hh0 hh1 hp0 hh3 hh4 hh5 hI hE
    refine z_xP zt188 17 33 [some (.ref 19), some (.int p1), some (.int p2), some (.int b3)] [.int p1, .int b3] rfl rfl ?_
    refine z_xJ zt188 18 rfl rfl (fun (h1 : p1.toInt ≤ b3.toInt) => ?_) (fun (h1 : b3.toInt < p1.toInt) => ?_)
    · skip
      refine z_xP zt188 36 72 [some (.ref 19), some (.int p1), some (.int p2), some (.int b3)] [.ref 19] rfl rfl ?_
      have f19 : T[19]? = some (.inl (12, 0, 0, 0, 0)) := X.1.k rfl (by decide)
      refine z_xgv zt188 37 rfl zo188 zzf12_120 X f19 (by decide) hp0 ?_
      exact z_xri zt188 38 rfl zzr188 (kk z0 M X (by omega) (by omega) (z_fddY hI ⟨by omega, by omega⟩ hp0 (by omega) (by omega) rfl))
    refine z_xP zt188 19 37 [some (.ref 19), some (.int p1), some (.int p2), some (.int b3)] [.ref 19] rfl rfl ?_
    have f19 : T[19]? = some (.inl (12, 0, 0, 0, 0)) := X.1.k rfl (by decide)
    refine z_xgX (b := 20) zt188 20 rfl zo188 zzf12_9 X f19 (by decide) (by decide) rfl ?_
    refine z_xP zt188 21 41 [some (.ref 19), some (.int p1), some (.int p2), some (.int b3)] [.ref 19, .ref 20] rfl rfl ?_
    refine z_xgv zt188 22 rfl zo188 zzf12_120 X f19 (by decide) hp0 ?_
    refine z_xP zt188 23 48 [some (.ref 19), some (.int p1), some (.int p2), some (.int b3)] [.int b3, .int 8, .int p2, .int z0, .ref 20] rfl rfl ?_
    refine z_xI zt188 24 rfl rfl (fun (x2 : Int32) (h3 : x2.toInt = 8 * b3.toInt) => ?_) (z_pMul rfl rfl (by omega) (by omega))
    have h4 := z_b32 p2
    refine z_xI zt188 25 rfl rfl (fun (x5 : Int32) (h6 : x5 = p2 >>> (x2 &&& 31)) => ?_) (rfl)
    refine z_xP zt188 26 53 [some (.ref 19), some (.int p1), some (.int p2), some (.int b3)] [.int 255, .int x5, .int z0, .ref 20] rfl rfl ?_
    refine z_xI zt188 27 rfl rfl (fun (x7 : Int32) (h8 : x7 = x5 &&& 255 ∧ 0 ≤ x7.toInt ∧ x7.toInt ≤ 255) => ?_) (⟨rfl, by rw [z_and255]; omega⟩)
    have f20 : T[20]? = some (.inr (20, 0, 160, (-2147483648), 2147483647)) := X.1.k rfl (by decide)
    refine z_xis zt188 28 rfl X f20 (by decide) (by decide) (by omega) (by omega) (Int32.le_toInt _) (Int32.toInt_le _) (by decide) (fun M9 X10 e11 h12 => ?_)
    refine z_xP zt188 29 57 [some (.ref 19), some (.int p1), some (.int p2), some (.int b3)] [.ref 19, .ref 19] rfl rfl ?_
    have h13 := (e11.f f19 (by decide) hp0)
    refine z_xgv zt188 30 rfl zo188 zzf12_120 X10 f19 (by decide) h13 ?_
    refine z_xP zt188 31 61 [some (.ref 19), some (.int p1), some (.int p2), some (.int b3)] [.int 1, .int z0, .ref 19] rfl rfl ?_
    refine z_xI zt188 32 rfl rfl (fun (x14 : Int32) (h15 : x14.toInt = z0.toInt + 1) => ?_) (z_pAdd rfl rfl (by omega) (by omega))
    refine z_xpf zt188 33 rfl zo188 zzf12_120 X10 f19 (by decide) (by decide) ⟨by omega, by omega⟩ rfl (by decide) zw12_1 (fun M16 X17 e18 h19 => ?_)
    refine z_xN zt188 34 rfl rfl (fun (x20 : Int32) (h21 : x20.toInt = b3.toInt + 1) => ?_) (z_pAdd rfl rfl (by omega) (by omega))
    show z_ev (d + 1) 188 68 [some (.ref 19), some (.int p1), some (.int p2), some (.int x20)] [] M16 _
    refine z_xP zt188 35 31 [some (.ref 19), some (.int p1), some (.int p2), some (.int x20)] [] rfl rfl ?_
    exact ih M16 x20 x14 X17 ⟨by omega, by omega⟩ ⟨by omega, by omega⟩ h19 ⟨by omega, by omega⟩ (by omega) (by omega) (z_fdiS hI hp0 ((e18.a f20 (by decide)).trans h12) (z_bytS (i := b3.toInt.toNat) (by omega) (by omega) h6 h8.1) h19 (by omega) (by omega)) (by omega)
theorem zYC188 {T : List zK} {d : Nat} {K : Option Value → zH → Prop} {p1 : Int32} {p2 : Int32} {M0 : zH} (hW : z_W M0 T)  (kk : ∀ (x : Int32) (M1 : zH), z_X T zw188 M0 M1 → (-3) ≤ x.toInt → x.toInt ≤ 160 → z_fdd M0 M1 19 20 p1.toInt x.toInt p2 → K (some (.int x)) M1) : z_ev (d + 1) 188 0 [some (.ref 19), some (.int p1), some (.int p2), none] [] M0 K := by
  have X : z_X T zw188 M0 M0 := .refl hW
  refine z_xP zt188 0 1 [some (.ref 19), some (.int p1), some (.int p2), none] [.int p1] rfl rfl ?_
  have h1 := z_b32 p1
  refine z_xL zt188 1 rfl rfl (fun (y2 : Int64) (h3 : y2.toInt = p1.toInt) => ?_) (z_qI2L rfl)
  refine z_xP zt188 2 3 [some (.ref 19), some (.int p1), some (.int p2), none] [.long 1, .long y2] rfl rfl ?_
  refine z_xl2 zt188 3 rfl zo188 zkl12_114 ?_
  refine z_xcS (vs := [.long y2, .long 1, .long 4]) (r := []) (L2 := [some (.long y2), none, some (.long 1), none, some (.long 4), none]) zt188 4 rfl zo188 zzcS12_116 (Or.inl rfl) (Nat.le_of_ble_eq_true rfl) rfl rfl (Nat.le_of_ble_eq_true rfl) zzm189 (Nat.le_of_ble_eq_true rfl) rfl ?_
  refine z_xP zt189 0 2 [some (.long y2), none, some (.long 1), none, some (.long 4), none] [.long 1, .long y2] rfl rfl ?_
  refine z_xI zt189 1 rfl rfl (fun (x4 : Int32) (h5 : (x4.toInt < 0 ∧ y2.toInt < 1) ∨ (x4.toInt = 0 ∧ y2.toInt = 1) ∨ (0 < x4.toInt ∧ 1 < y2.toInt)) => ?_) (z_qCmp rfl rfl)
  refine z_xZ zt189 2 rfl rfl (fun (h6 : x4.toInt < 0) => ?_) (fun (h6 : 0 ≤ x4.toInt) => ?_)
  · skip
    refine z_xP zt189 7 18 [some (.long y2), none, some (.long 1), none, some (.long 4), none] [.int 0] rfl rfl ?_
    refine z_xrz zt189 8 rfl zzr189 (by decide) (by decide) ?_
    show z_ev (d + 1) 188 9 [some (.ref 19), some (.int p1), some (.int p2), none] [.int 0] M0 _
    refine z_xZ zt188 5 rfl rfl (fun (h7 : (0 : Int) ≠ 0) => absurd h7 (by omega)) (fun (h7 : (0 : Int) = 0) => ?_)
    refine z_xP zt188 6 13 [some (.ref 19), some (.int p1), some (.int p2), none] [.int (-1)] rfl rfl ?_
    have qm1 : (((-1) : Int32)).toInt = (-1) := rfl
    have qm1 : (((-1) : Int32)).toInt = (-1) := rfl
    exact z_xri zt188 7 rfl zzr188 (kk (-1) M0 X (by omega) (by omega) (z_fddB (by omega) (by omega)))
  refine z_xP zt189 3 9 [some (.long y2), none, some (.long 1), none, some (.long 4), none] [.long 4, .long y2] rfl rfl ?_
  refine z_xI zt189 4 rfl rfl (fun (x8 : Int32) (h9 : (x8.toInt < 0 ∧ y2.toInt < 4) ∨ (x8.toInt = 0 ∧ y2.toInt = 4) ∨ (0 < x8.toInt ∧ 4 < y2.toInt)) => ?_) (z_qCmp rfl rfl)
  refine z_xZ zt189 5 rfl rfl (fun (h10 : 0 < x8.toInt) => ?_) (fun (h10 : x8.toInt ≤ 0) => ?_)
  · skip
    refine z_xP zt189 7 18 [some (.long y2), none, some (.long 1), none, some (.long 4), none] [.int 0] rfl rfl ?_
    refine z_xrz zt189 8 rfl zzr189 (by decide) (by decide) ?_
    show z_ev (d + 1) 188 9 [some (.ref 19), some (.int p1), some (.int p2), none] [.int 0] M0 _
    refine z_xZ zt188 5 rfl rfl (fun (h11 : (0 : Int) ≠ 0) => absurd h11 (by omega)) (fun (h11 : (0 : Int) = 0) => ?_)
    refine z_xP zt188 6 13 [some (.ref 19), some (.int p1), some (.int p2), none] [.int (-1)] rfl rfl ?_
    have qm1 : (((-1) : Int32)).toInt = (-1) := rfl
    have qm1 : (((-1) : Int32)).toInt = (-1) := rfl
    exact z_xri zt188 7 rfl zzr188 (kk (-1) M0 X (by omega) (by omega) (z_fddB (by omega) (by omega)))
  refine z_xP zt189 6 18 [some (.long y2), none, some (.long 1), none, some (.long 4), none] [.int 1] rfl rfl ?_
  refine z_xrz zt189 8 rfl zzr189 (by decide) (by decide) ?_
  show z_ev (d + 1) 188 9 [some (.ref 19), some (.int p1), some (.int p2), none] [.int 1] M0 _
  refine z_xZ zt188 5 rfl rfl (fun (h12 : (1 : Int) ≠ 0) => ?_) (fun (h12 : (1 : Int) = 0) => absurd h12 (by omega))
  refine z_xP zt188 8 15 [some (.ref 19), some (.int p1), some (.int p2), none] [.ref 19] rfl rfl ?_
  have f19 : T[19]? = some (.inl (12, 0, 0, 0, 0)) := X.1.k rfl (by decide)
  refine z_xgI zt188 9 rfl zo188 zzf12_120 X f19 (by decide) (by decide) rfl (fun (x14 : Int32) h13 (h15 : 0 ≤ x14.toInt) (h16 : x14.toInt ≤ 160) => ?_)
  refine z_xP zt188 10 19 [some (.ref 19), some (.int p1), some (.int p2), none] [.int p1, .int x14] rfl rfl ?_
  refine z_xI zt188 11 rfl rfl (fun (x17 : Int32) (h18 : x17.toInt = x14.toInt + p1.toInt) => ?_) (z_pAdd rfl rfl (by omega) (by omega))
  refine z_xP zt188 12 23 [some (.ref 19), some (.int p1), some (.int p2), none] [.int 160, .int x17] rfl rfl ?_
  refine z_xJ zt188 13 rfl rfl (fun (h19 : x17.toInt ≤ 160) => ?_) (fun (h19 : 160 < x17.toInt) => ?_)
  · skip
    refine z_xP zt188 16 31 [some (.ref 19), some (.int p1), some (.int p2), some (.int 0)] [] rfl rfl ?_
    have q0 : ((0 : Int32)).toInt = 0 := rfl
    have q0 : ((0 : Int32)).toInt = 0 := rfl
    exact (zYB188 kk 10) M0 (0) x14 X ⟨by omega, by omega⟩ (by decide) h13 ⟨by omega, by omega⟩ (by omega) (by omega) (z_fdi0 h13 (by omega) rfl) (by omega)
  refine z_xP zt188 14 28 [some (.ref 19), some (.int p1), some (.int p2), none] [.int (-3)] rfl rfl ?_
  have qm3 : (((-3) : Int32)).toInt = (-3) := rfl
  have qm3 : (((-3) : Int32)).toInt = (-3) := rfl
  exact z_xri zt188 15 rfl zzr188 (kk (-3) M0 X (by omega) (by omega) (z_fddF ⟨by omega, by omega⟩ (by omega) h13 (by omega)))
